/-! Part 17: the reference: call, begin, advance, now. By wip/gen/gen_ref6.py. -/
set_option maxHeartbeats 4000000 in
set_option maxRecDepth 100000 in
theorem rc_call (l : Launch) (D : va_G) (ra : Nat → Nat) (ca : Nat → ClassId) (hJ : rf_J ra) (N : sp_N) (O : sp_O) (Z : sp_Z) (B : sp_B) (hB : sp_Bd N O) (h3q : 3 ≤ N 1 0) (ci q : Int32) (bar : Bool) : Met l my_M_call (Cond.code my_M_call cd_M_call 6 (some .int) :: bg_tbl) ({ frames := 2, cells := 0, slots := 0, locals := 48 }) (va_Pc [.ref (ra 0), .int ci, .int q, .int (bd_b bar)] (rf_U D ra ca N O Z B)) (va_Qi (fun r (_ : Unit) => r = am_call N O B (bd_at ci (N 6 0)) (bd_at q (N 1 0)) bar) (fun _ uu => rf_U D ra ca (nm_call N (ok_call N O B (bd_at ci (N 6 0)) (bd_at q (N 1 0)) bar)) (om_call N O (ok_call N O B (bd_at ci (N 6 0)) (bd_at q (N 1 0)) bar)) Z (bm_call N B bar (ok_call N O B (bd_at ci (N 6 0)) (bd_at q (N 1 0)) bar)) uu) (rf_A ra)) 0 0 (rf_A ra) := by
  refine Met.ofW (cc := cd_M_call) (maxL := 6) (ret := (some .int)) (by decide) rfl ?_
  intro p e s m args below meth c s₁ BB hml hv
  obtain ⟨rfl, hP, hK⟩ := hv
  have hx := BB.exec
  have hb := BB.bytes
  have hr := BB.returns
  have hts : ∀ w ∈ bg_tbl, w.before ([.ref (ra 0), .int ci, .int q, .int (bd_b bar)] : List Value).toArray s = true := fun w h => atoms_spec (ws := (Cond.code my_M_call cd_M_call 6 (some .int) :: bg_tbl)) BB.pre w (List.mem_cons_of_mem _ h)
  have hown : s.vm.findClass rn_M = some m.cls := findClass_of_methodNamed BB.named
  have hlocks := BB.notSynchronized
  obtain ⟨hB_0, hB_1, hB_2, hB_3, hB_4, hB_5, hB_6, hB_7, hB_8, hB_9, hB_10, hB_11, hB_12, hB_17⟩ := id hB
  have hS : va_S (rf_A ra) s.heap s.heap [] := va_S.rf
  have hl := lv_entry ([.ref (ra 0), .int ci, .int q, .int (bd_b bar)]) (n := 6) (Nat.le_of_ble_eq_true rfl)
  rw [lg_entry_eq]
  generalize (lg_sl ([.ref (ra 0), .int ci, .int q, .int (bd_b bar)]) ++ List.replicate (6 - (lg_sl ([.ref (ra 0), .int ci, .int q, .int (bd_b bar)])).length) Slot.unset).toArray = ls at hl ⊢
  have hl : lv_has ls 6 [(0, .ref (ra 0)), (1, .int ci), (2, .int q), (3, .int (bd_b bar))] := hl
  refine lv_aload_n hx hb dd_M_call_0 rfl (lv_at hl 0 rfl) ?_
  refine lv_iload_n hx hb dd_M_call_1 rfl (lv_at hl 1 rfl) ?_
  refine rf_calli (As := [.int ci]) (rest := []) (v := bd_b (bd_in ci (N 6 0))) ⟨hx, hb, hml, hown, hts⟩ (rc_isBlock l D ra ca N O Z B hB ci) (bg_cwV 1 hts tw_ml_M_115 tw_im_M_isBlock tw_se_M_isBlock tw_in_M tw_co_M_isBlock rfl rfl th_M_isBlock ⟨Nat.le_of_ble_eq_true rfl, Nat.le_of_ble_eq_true rfl⟩) hK hP rfl hl.1 rfl (by decide) dd_M_call_2 ⟨Nat.zero_le _, Nat.zero_le _⟩ ?_
  refine bq_zeq (tgt := 18) hx hb dd_M_call_5 rfl (fun h5 => ?_) (fun h5 => ?_)
  · refine lv_bipush (v := -3) hx hb dd_M_call_18 (by decide) ?_
    have eN : nm_call N (ok_call N O B (bd_at ci (N 6 0)) (bd_at q (N 1 0)) bar) = N := by simp only [bd_at_none h5]; simp [ok_call, nm_call]
    have eO : om_call N O (ok_call N O B (bd_at ci (N 6 0)) (bd_at q (N 1 0)) bar) = O := by simp only [bd_at_none h5]; simp [ok_call, om_call]
    have eB : bm_call N B bar (ok_call N O B (bd_at ci (N 6 0)) (bd_at q (N 1 0)) bar) = B := by simp only [bd_at_none h5]; simp [ok_call, bm_call]
    exact W.iret hx hb hr (fun tt htt hWW => ⟨⟨_, (), rfl, (by simp only [bd_at_none h5]; simp [am_call]), by rw [htt, eN, eO, eB]; exact hP, va_K.moved hWW.alike hK⟩, hS.F htt⟩) hS.2.2 dd_M_call_20
  · obtain ⟨a, ha9, rfl⟩ := bd_in_of h5 (by omega)
    refine lv_aload_n hx hb dd_M_call_8 rfl (lv_at hl 0 rfl) ?_
    refine va_get (D := D) (ci := 4) (v := .ref (ra 8)) (C := rn_M) (T := ft_M) (N := 19) hx hb hts tw_fs_M hown hK hP 0 rfl rfl 8 (by decide) (hts _ tw_fl_M_29) (fun _ h9 => h9) rfl dd_M_call_9 ?_
    refine lv_iload_n hx hb dd_M_call_12 rfl (lv_at hl 1 rfl) ?_
    refine bq_iald hx hb hK hP 6 5 rfl rfl (by omega) (by decide) dd_M_call_13 ?_
    refine lv_iconst (v := nI 3) hx hb dd_M_call_14 (by decide) ?_
    refine bq_eq (tgt := 21) hx hb (Nat.lt_trans (hB_8 a) (by decide)) (by decide) dd_M_call_15 rfl (fun h15 => ?_) (fun h15 => ?_)
    · refine lv_aload_n hx hb dd_M_call_21 rfl (lv_at hl 0 rfl) ?_
      refine lv_iload_n hx hb dd_M_call_22 rfl (lv_at hl 2 rfl) ?_
      refine rf_calli (As := [.int q]) (rest := []) (v := bd_b (bd_in q (N 1 0))) ⟨hx, hb, hml, hown, hts⟩ (rc_isQueue l D ra ca N O Z B hB q) (bg_cwV 1 hts tw_ml_M_102 tw_im_M_isQueue tw_se_M_isQueue tw_in_M tw_co_M_isQueue rfl rfl th_M_isQueue ⟨Nat.le_of_ble_eq_true rfl, Nat.le_of_ble_eq_true rfl⟩) hK hP rfl hl.1 rfl (by decide) dd_M_call_23 ⟨Nat.zero_le _, Nat.zero_le _⟩ ?_
      refine bq_zne (tgt := 31) hx hb dd_M_call_26 rfl (fun h26 => ?_) (fun h26 => ?_)
      · obtain ⟨b, hb9, rfl⟩ := bd_in_of h26 (by omega)
        have lp : ∀ (n : Nat) (cu : Option Nat) (k : Nat) (ls : Array Slot) (H : Heap) (locs : List Loc), (n + k = 160) → (∀ z, cu = some z → z < 160) → (sp_dl N O B b bar n cu = sp_dl N O B b bar 160 (some a)) →  va_P D vw_cl (rf_W ra ca N O Z B) H → va_S (rf_A ra) s.heap H locs → lv_has ls 6 [(0, .ref (ra 0)), (1, .int (nI a)), (2, .int (nI b)), (3, .int (bd_b bar)), (4, .int (bd_o cu)), (5, .int (nI k))] → W p l e (headSpec (Cond.code my_M_call cd_M_call 6 (some .int) :: bg_tbl) ({ frames := 2, cells := 0, slots := 0, locals := 48 })).room s m ([.ref (ra 0), .int (nI a), .int (nI b), .int (bd_b bar)] : List Value).toArray below meth c H locs 0 0 (MQ below (va_Qi (fun r (_ : Unit) => r = am_call N O B (bd_at (nI a) (N 6 0)) (bd_at (nI b) (N 1 0)) bar) (fun _ uu => rf_U D ra ca (nm_call N (ok_call N O B (bd_at (nI a) (N 6 0)) (bd_at (nI b) (N 1 0)) bar)) (om_call N O (ok_call N O B (bd_at (nI a) (N 6 0)) (bd_at (nI b) (N 1 0)) bar)) Z (bm_call N B bar (ok_call N O B (bd_at (nI a) (N 6 0)) (bd_at (nI b) (N 1 0)) bar)) uu) (rf_A ra)) ([.ref (ra 0), .int (nI a), .int (nI b), .int (bd_b bar)] : List Value).toArray s 0 0 (rf_A ra)) (F0 m 37 ls []) := by
          intro n
          induction n with
          | zero =>
            intro cu k ls H locs hk hcu he hP hS hl
            refine lv_iload hx hb dd_M_call_37 (lv_at hl 5 rfl) ?_
            refine lv_sipush (v := nI 160) hx hb dd_M_call_39 (by decide) ?_
            refine bq_ge (tgt := 79) hx hb (by omega) (by decide) dd_M_call_42 rfl (fun h42 => ?_) (fun h42 => ?_)
            · have hd : sp_dl N O B b bar 160 (some a) = false := by rw [← he]; rfl
              refine lv_aload_n hx hb dd_M_call_79 rfl (lv_at hl 0 rfl) ?_
              refine va_get (D := D) (ci := 4) (v := .int (nI (N 6 0))) (C := rn_M) (T := ft_M) (N := 19) hx hb hts tw_fs_M hown hK hP 0 rfl rfl 6 (by decide) (hts _ tw_fl_M_61) (fun _ h9 => h9) rfl dd_M_call_80 ?_
              refine lv_sipush (v := nI 160) hx hb dd_M_call_83 (by decide) ?_
              refine bq_ne (tgt := 92) hx hb (Nat.lt_of_le_of_lt hB_6 (by decide)) (by decide) dd_M_call_86 rfl (fun h86 => ?_) (fun h86 => ?_)
              · refine lv_aload_n hx hb dd_M_call_92 rfl (lv_at hl 0 rfl) ?_
                refine lv_iload_n hx hb dd_M_call_93 rfl (lv_at hl 2 rfl) ?_
                refine lv_iload_n hx hb dd_M_call_94 rfl (lv_at hl 3 rfl) ?_
                refine rf_callwi (As := [.int (nI b), .int (bd_b bar)]) (rest := []) (v := nI (N 6 0)) ⟨hx, hb, hml, hown, hts⟩ (rc_accept l D ra ca hJ N O Z B (by omega) b bar (by omega)) (bg_cwV 2 hts tw_ml_M_105 tw_im_M_accept tw_se_M_accept tw_in_M tw_co_M_accept rfl rfl th_M_accept ⟨Nat.le_of_ble_eq_true rfl, Nat.le_of_ble_eq_true rfl⟩) hK hP hS rfl hl.1 rfl (by decide) dd_M_call_95 ⟨Nat.zero_le _, Nat.zero_le _⟩ (fun H locs hP hS => ?_)
                refine lv_istore hx hb dd_M_call_98 hl (by decide) rfl (fun ls hl => ?_)
                have hl : lv_has ls 6 [(5, .int (nI (N 6 0))), (0, .ref (ra 0)), (1, .int (nI a)), (2, .int (nI b)), (3, .int (bd_b bar)), (4, .int (bd_o cu))] := hl
                refine lv_aload_n hx hb dd_M_call_100 rfl (lv_at hl 1 rfl) ?_
                refine va_get (D := D) (ci := 4) (v := .ref (ra 9)) (C := rn_M) (T := ft_M) (N := 19) hx hb hts tw_fs_M hown hK hP 0 rfl rfl 9 (by decide) (hts _ tw_fl_M_32) (fun _ h9 => h9) rfl dd_M_call_101 ?_
                refine lv_iload hx hb dd_M_call_104 (lv_at hl 0 rfl) ?_
                refine lv_iload_n hx hb dd_M_call_106 rfl (lv_at hl 2 rfl) ?_
                refine bq_oast (v := some a) hx hb hK hP (rf_D hJ ca (sp_AN N b) (sp_AO N O) Z (sp_AB N B b bar)) hS 7 6 rfl rfl (by omega) (by decide) dd_M_call_107 (fun H locs hP _ hS => ?_)
                have hP : va_P D vw_cl (rf_W ra ca (sp_AN N b) (sp_u (sp_AO N O) 9 (N 6 0) (some a)) Z (sp_AB N B b bar)) H := hP
                refine lv_aload_n hx hb dd_M_call_108 rfl (lv_at hl 1 rfl) ?_
                refine va_get (D := D) (ci := 4) (v := .ref (ra 8)) (C := rn_M) (T := ft_M) (N := 19) hx hb hts tw_fs_M hown hK hP 0 rfl rfl 8 (by decide) (hts _ tw_fl_M_29) (fun _ h9 => h9) rfl dd_M_call_109 ?_
                refine lv_iload_n hx hb dd_M_call_112 rfl (lv_at hl 2 rfl) ?_
                refine lv_iconst (v := nI 4) hx hb dd_M_call_113 (by decide) ?_
                refine bq_iast hx hb hK hP (rf_D hJ ca (sp_AN N b) (sp_u (sp_AO N O) 9 (N 6 0) (some a)) Z (sp_AB N B b bar)) hS 6 5 rfl rfl (by omega) (by decide) dd_M_call_114 (fun H locs hP _ hS => ?_)
                have hP : va_P D vw_cl (rf_W ra ca (sp_u (sp_AN N b) 8 a 4) (sp_u (sp_AO N O) 9 (N 6 0) (some a)) Z (sp_AB N B b bar)) H := hP
                refine lv_aload_n hx hb dd_M_call_115 rfl (lv_at hl 1 rfl) ?_
                refine lv_iload hx hb dd_M_call_116 (lv_at hl 0 rfl) ?_
                refine rf_callwv (As := [.int (nI (N 6 0))]) (rest := []) ⟨hx, hb, hml, hown, hts⟩ (rc_line l D ra ca hJ (sp_u (sp_AN N b) 8 a 4) (sp_u (sp_AO N O) 9 (N 6 0) (some a)) Z (sp_AB N B b bar) (N 6 0) (by omega)) (bg_cwV 1 hts tw_ml_M_95 tw_im_M_line tw_se_M_line tw_in_M tw_co_M_line rfl rfl th_M_line ⟨Nat.le_of_ble_eq_true rfl, Nat.le_of_ble_eq_true rfl⟩) hK hP hS rfl hl.1 rfl (by decide) dd_M_call_118 ⟨Nat.zero_le _, Nat.zero_le _⟩ (fun H locs hP hS => ?_)
                refine lv_iload hx hb dd_M_call_121 (lv_at hl 0 rfl) ?_
                have eN : nm_call N (ok_call N O B (bd_at (nI a) (N 6 0)) (bd_at (nI b) (N 1 0)) bar) = sp_L (sp_u (sp_AN N b) 8 a 4) (N 6 0) := by simp only [bd_at_in ha9 (by omega), bd_at_in hb9 (by omega)]; simp [ok_call, nm_call, h15, hd, h86]
                have eO : om_call N O (ok_call N O B (bd_at (nI a) (N 6 0)) (bd_at (nI b) (N 1 0)) bar) = sp_u (sp_AO N O) 9 (N 6 0) (some a) := by simp only [bd_at_in ha9 (by omega), bd_at_in hb9 (by omega)]; simp [ok_call, om_call, h15, hd, h86]
                have eB : bm_call N B bar (ok_call N O B (bd_at (nI a) (N 6 0)) (bd_at (nI b) (N 1 0)) bar) = sp_AB N B b bar := by simp only [bd_at_in ha9 (by omega), bd_at_in hb9 (by omega)]; simp [ok_call, bm_call, h15, hd, h86]
                exact W.iret hx hb hr (fun tt htt hWW => ⟨⟨_, (), rfl, (by simp only [bd_at_in ha9 (by omega), bd_at_in hb9 (by omega)]; simp [am_call, h15, hd, h86]), by rw [htt, eN, eO, eB]; exact hP, va_K.moved hWW.alike hK⟩, hS.F htt⟩) hS.2.2 dd_M_call_123
              · refine lv_bipush (v := -4) hx hb dd_M_call_89 (by decide) ?_
                have eN : nm_call N (ok_call N O B (bd_at (nI a) (N 6 0)) (bd_at (nI b) (N 1 0)) bar) = N := by simp only [bd_at_in ha9 (by omega), bd_at_in hb9 (by omega)]; simp [ok_call, nm_call, h15, hd, h86]
                have eO : om_call N O (ok_call N O B (bd_at (nI a) (N 6 0)) (bd_at (nI b) (N 1 0)) bar) = O := by simp only [bd_at_in ha9 (by omega), bd_at_in hb9 (by omega)]; simp [ok_call, om_call, h15, hd, h86]
                have eB : bm_call N B bar (ok_call N O B (bd_at (nI a) (N 6 0)) (bd_at (nI b) (N 1 0)) bar) = B := by simp only [bd_at_in ha9 (by omega), bd_at_in hb9 (by omega)]; simp [ok_call, bm_call, h15, hd, h86]
                exact W.iret hx hb hr (fun tt htt hWW => ⟨⟨_, (), rfl, (by simp only [bd_at_in ha9 (by omega), bd_at_in hb9 (by omega)]; simp [am_call, h15, hd, h86]), by rw [htt, eN, eO, eB]; exact hP, va_K.moved hWW.alike hK⟩, hS.F htt⟩) hS.2.2 dd_M_call_91
            · exact absurd h42 (by omega)
          | succ n ih =>
            intro cu k ls H locs hk hcu he hP hS hl
            refine lv_iload hx hb dd_M_call_37 (lv_at hl 5 rfl) ?_
            refine lv_sipush (v := nI 160) hx hb dd_M_call_39 (by decide) ?_
            refine bq_ge (tgt := 79) hx hb (by omega) (by decide) dd_M_call_42 rfl (fun h42 => ?_) (fun h42 => ?_)
            · exact absurd h42 (by omega)
            · refine lv_iload hx hb dd_M_call_45 (lv_at hl 4 rfl) ?_
              refine bq_olt (tgt := 79) hx hb (fun k hk => Nat.lt_trans (hcu k hk) (by decide)) dd_M_call_47 rfl (fun h47 => ?_) (fun h47 => ?_)
              · have hd : sp_dl N O B b bar 160 (some a) = false := by rw [← he, h47]; rfl
                refine lv_aload_n hx hb dd_M_call_79 rfl (lv_at hl 0 rfl) ?_
                refine va_get (D := D) (ci := 4) (v := .int (nI (N 6 0))) (C := rn_M) (T := ft_M) (N := 19) hx hb hts tw_fs_M hown hK hP 0 rfl rfl 6 (by decide) (hts _ tw_fl_M_61) (fun _ h9 => h9) rfl dd_M_call_80 ?_
                refine lv_sipush (v := nI 160) hx hb dd_M_call_83 (by decide) ?_
                refine bq_ne (tgt := 92) hx hb (Nat.lt_of_le_of_lt hB_6 (by decide)) (by decide) dd_M_call_86 rfl (fun h86 => ?_) (fun h86 => ?_)
                · refine lv_aload_n hx hb dd_M_call_92 rfl (lv_at hl 0 rfl) ?_
                  refine lv_iload_n hx hb dd_M_call_93 rfl (lv_at hl 2 rfl) ?_
                  refine lv_iload_n hx hb dd_M_call_94 rfl (lv_at hl 3 rfl) ?_
                  refine rf_callwi (As := [.int (nI b), .int (bd_b bar)]) (rest := []) (v := nI (N 6 0)) ⟨hx, hb, hml, hown, hts⟩ (rc_accept l D ra ca hJ N O Z B (by omega) b bar (by omega)) (bg_cwV 2 hts tw_ml_M_105 tw_im_M_accept tw_se_M_accept tw_in_M tw_co_M_accept rfl rfl th_M_accept ⟨Nat.le_of_ble_eq_true rfl, Nat.le_of_ble_eq_true rfl⟩) hK hP hS rfl hl.1 rfl (by decide) dd_M_call_95 ⟨Nat.zero_le _, Nat.zero_le _⟩ (fun H locs hP hS => ?_)
                  refine lv_istore hx hb dd_M_call_98 hl (by decide) rfl (fun ls hl => ?_)
                  have hl : lv_has ls 6 [(5, .int (nI (N 6 0))), (0, .ref (ra 0)), (1, .int (nI a)), (2, .int (nI b)), (3, .int (bd_b bar)), (4, .int (bd_o cu))] := hl
                  refine lv_aload_n hx hb dd_M_call_100 rfl (lv_at hl 1 rfl) ?_
                  refine va_get (D := D) (ci := 4) (v := .ref (ra 9)) (C := rn_M) (T := ft_M) (N := 19) hx hb hts tw_fs_M hown hK hP 0 rfl rfl 9 (by decide) (hts _ tw_fl_M_32) (fun _ h9 => h9) rfl dd_M_call_101 ?_
                  refine lv_iload hx hb dd_M_call_104 (lv_at hl 0 rfl) ?_
                  refine lv_iload_n hx hb dd_M_call_106 rfl (lv_at hl 2 rfl) ?_
                  refine bq_oast (v := some a) hx hb hK hP (rf_D hJ ca (sp_AN N b) (sp_AO N O) Z (sp_AB N B b bar)) hS 7 6 rfl rfl (by omega) (by decide) dd_M_call_107 (fun H locs hP _ hS => ?_)
                  have hP : va_P D vw_cl (rf_W ra ca (sp_AN N b) (sp_u (sp_AO N O) 9 (N 6 0) (some a)) Z (sp_AB N B b bar)) H := hP
                  refine lv_aload_n hx hb dd_M_call_108 rfl (lv_at hl 1 rfl) ?_
                  refine va_get (D := D) (ci := 4) (v := .ref (ra 8)) (C := rn_M) (T := ft_M) (N := 19) hx hb hts tw_fs_M hown hK hP 0 rfl rfl 8 (by decide) (hts _ tw_fl_M_29) (fun _ h9 => h9) rfl dd_M_call_109 ?_
                  refine lv_iload_n hx hb dd_M_call_112 rfl (lv_at hl 2 rfl) ?_
                  refine lv_iconst (v := nI 4) hx hb dd_M_call_113 (by decide) ?_
                  refine bq_iast hx hb hK hP (rf_D hJ ca (sp_AN N b) (sp_u (sp_AO N O) 9 (N 6 0) (some a)) Z (sp_AB N B b bar)) hS 6 5 rfl rfl (by omega) (by decide) dd_M_call_114 (fun H locs hP _ hS => ?_)
                  have hP : va_P D vw_cl (rf_W ra ca (sp_u (sp_AN N b) 8 a 4) (sp_u (sp_AO N O) 9 (N 6 0) (some a)) Z (sp_AB N B b bar)) H := hP
                  refine lv_aload_n hx hb dd_M_call_115 rfl (lv_at hl 1 rfl) ?_
                  refine lv_iload hx hb dd_M_call_116 (lv_at hl 0 rfl) ?_
                  refine rf_callwv (As := [.int (nI (N 6 0))]) (rest := []) ⟨hx, hb, hml, hown, hts⟩ (rc_line l D ra ca hJ (sp_u (sp_AN N b) 8 a 4) (sp_u (sp_AO N O) 9 (N 6 0) (some a)) Z (sp_AB N B b bar) (N 6 0) (by omega)) (bg_cwV 1 hts tw_ml_M_95 tw_im_M_line tw_se_M_line tw_in_M tw_co_M_line rfl rfl th_M_line ⟨Nat.le_of_ble_eq_true rfl, Nat.le_of_ble_eq_true rfl⟩) hK hP hS rfl hl.1 rfl (by decide) dd_M_call_118 ⟨Nat.zero_le _, Nat.zero_le _⟩ (fun H locs hP hS => ?_)
                  refine lv_iload hx hb dd_M_call_121 (lv_at hl 0 rfl) ?_
                  have eN : nm_call N (ok_call N O B (bd_at (nI a) (N 6 0)) (bd_at (nI b) (N 1 0)) bar) = sp_L (sp_u (sp_AN N b) 8 a 4) (N 6 0) := by simp only [bd_at_in ha9 (by omega), bd_at_in hb9 (by omega)]; simp [ok_call, nm_call, h15, hd, h86]
                  have eO : om_call N O (ok_call N O B (bd_at (nI a) (N 6 0)) (bd_at (nI b) (N 1 0)) bar) = sp_u (sp_AO N O) 9 (N 6 0) (some a) := by simp only [bd_at_in ha9 (by omega), bd_at_in hb9 (by omega)]; simp [ok_call, om_call, h15, hd, h86]
                  have eB : bm_call N B bar (ok_call N O B (bd_at (nI a) (N 6 0)) (bd_at (nI b) (N 1 0)) bar) = sp_AB N B b bar := by simp only [bd_at_in ha9 (by omega), bd_at_in hb9 (by omega)]; simp [ok_call, bm_call, h15, hd, h86]
                  exact W.iret hx hb hr (fun tt htt hWW => ⟨⟨_, (), rfl, (by simp only [bd_at_in ha9 (by omega), bd_at_in hb9 (by omega)]; simp [am_call, h15, hd, h86]), by rw [htt, eN, eO, eB]; exact hP, va_K.moved hWW.alike hK⟩, hS.F htt⟩) hS.2.2 dd_M_call_123
                · refine lv_bipush (v := -4) hx hb dd_M_call_89 (by decide) ?_
                  have eN : nm_call N (ok_call N O B (bd_at (nI a) (N 6 0)) (bd_at (nI b) (N 1 0)) bar) = N := by simp only [bd_at_in ha9 (by omega), bd_at_in hb9 (by omega)]; simp [ok_call, nm_call, h15, hd, h86]
                  have eO : om_call N O (ok_call N O B (bd_at (nI a) (N 6 0)) (bd_at (nI b) (N 1 0)) bar) = O := by simp only [bd_at_in ha9 (by omega), bd_at_in hb9 (by omega)]; simp [ok_call, om_call, h15, hd, h86]
                  have eB : bm_call N B bar (ok_call N O B (bd_at (nI a) (N 6 0)) (bd_at (nI b) (N 1 0)) bar) = B := by simp only [bd_at_in ha9 (by omega), bd_at_in hb9 (by omega)]; simp [ok_call, bm_call, h15, hd, h86]
                  exact W.iret hx hb hr (fun tt htt hWW => ⟨⟨_, (), rfl, (by simp only [bd_at_in ha9 (by omega), bd_at_in hb9 (by omega)]; simp [am_call, h15, hd, h86]), by rw [htt, eN, eO, eB]; exact hP, va_K.moved hWW.alike hK⟩, hS.F htt⟩) hS.2.2 dd_M_call_91
              · obtain ⟨c9, hc9⟩ := bd_ne h47
                have hl : lv_has ls 6 [(0, .ref (ra 0)), (1, .int (nI a)), (2, .int (nI b)), (3, .int (bd_b bar)), (4, .int (nI c9)), (5, .int (nI k))] := by rw [hc9] at hl; exact hl
                refine lv_aload_n hx hb dd_M_call_50 rfl (lv_at hl 0 rfl) ?_
                refine lv_iload hx hb dd_M_call_51 (lv_at hl 4 rfl) ?_
                refine lv_iload_n hx hb dd_M_call_53 rfl (lv_at hl 2 rfl) ?_
                refine lv_iload_n hx hb dd_M_call_54 rfl (lv_at hl 3 rfl) ?_
                refine rf_calli (As := [.int (nI c9), .int (nI b), .int (bd_b bar)]) (rest := []) (v := bd_b (sp_x N B c9 b bar)) ⟨hx, hb, hml, hown, hts⟩ (rc_inTheWay l D ra ca N O Z B hB h3q c9 b bar (hcu _ hc9) (by omega)) (bg_cwV 3 hts tw_ml_M_118 tw_im_M_inTheWay tw_se_M_inTheWay tw_in_M tw_co_M_inTheWay rfl rfl th_M_inTheWay ⟨Nat.le_of_ble_eq_true rfl, Nat.le_of_ble_eq_true rfl⟩) hK hP rfl hl.1 rfl (by decide) dd_M_call_55 ⟨Nat.zero_le _, Nat.zero_le _⟩ ?_
                refine bq_zeq (tgt := 64) hx hb dd_M_call_58 rfl (fun h58 => ?_) (fun h58 => ?_)
                · refine lv_aload_n hx hb dd_M_call_64 rfl (lv_at hl 0 rfl) ?_
                  refine va_get (D := D) (ci := 4) (v := .ref (ra 9)) (C := rn_M) (T := ft_M) (N := 19) hx hb hts tw_fs_M hown hK hP 0 rfl rfl 9 (by decide) (hts _ tw_fl_M_32) (fun _ h9 => h9) rfl dd_M_call_65 ?_
                  refine lv_iload hx hb dd_M_call_68 (lv_at hl 4 rfl) ?_
                  refine bq_iald hx hb hK hP 7 6 rfl rfl (hcu _ hc9) (by decide) dd_M_call_70 ?_
                  refine lv_istore hx hb dd_M_call_71 hl (by decide) rfl (fun ls hl => ?_)
                  have hl : lv_has ls 6 [(4, .int (bd_o (O 9 c9))), (0, .ref (ra 0)), (1, .int (nI a)), (2, .int (nI b)), (3, .int (bd_b bar)), (5, .int (nI k))] := hl
                  refine lv_iinc (k := 5) (v := nI (k + 1)) hx hb dd_M_call_73 hl rfl (nI_1 _) (by decide) rfl (fun ls hl => ?_)
                  have hl : lv_has ls 6 [(5, .int (nI (k + 1))), (4, .int (bd_o (O 9 c9))), (0, .ref (ra 0)), (1, .int (nI a)), (2, .int (nI b)), (3, .int (bd_b bar))] := hl
                  refine lv_goto (tgt := 37) hx hb dd_M_call_76 rfl ?_
                  exact ih (O 9 c9) (k + 1) ls H locs (by omega) (fun z hz => hB_9 _ _ hz) (by rw [← he, hc9, sp_dl, if_neg (by rw [h58]; decide)]) hP hS (lv_sub hl [2, 3, 4, 5, 1, 0] rfl)
                · have hd : sp_dl N O B b bar 160 (some a) = true := by rw [← he, hc9, sp_dl, if_pos h58]
                  refine lv_bipush (v := -7) hx hb dd_M_call_61 (by decide) ?_
                  have eN : nm_call N (ok_call N O B (bd_at (nI a) (N 6 0)) (bd_at (nI b) (N 1 0)) bar) = N := by simp only [bd_at_in ha9 (by omega), bd_at_in hb9 (by omega)]; simp [ok_call, nm_call, h15, hd]
                  have eO : om_call N O (ok_call N O B (bd_at (nI a) (N 6 0)) (bd_at (nI b) (N 1 0)) bar) = O := by simp only [bd_at_in ha9 (by omega), bd_at_in hb9 (by omega)]; simp [ok_call, om_call, h15, hd]
                  have eB : bm_call N B bar (ok_call N O B (bd_at (nI a) (N 6 0)) (bd_at (nI b) (N 1 0)) bar) = B := by simp only [bd_at_in ha9 (by omega), bd_at_in hb9 (by omega)]; simp [ok_call, bm_call, h15, hd]
                  exact W.iret hx hb hr (fun tt htt hWW => ⟨⟨_, (), rfl, (by simp only [bd_at_in ha9 (by omega), bd_at_in hb9 (by omega)]; simp [am_call, h15, hd]), by rw [htt, eN, eO, eB]; exact hP, va_K.moved hWW.alike hK⟩, hS.F htt⟩) hS.2.2 dd_M_call_63
        refine lv_iload_n hx hb dd_M_call_31 rfl (lv_at hl 1 rfl) ?_
        refine lv_istore hx hb dd_M_call_32 hl (by decide) rfl (fun ls hl => ?_)
        have hl : lv_has ls 6 [(4, .int (nI a)), (0, .ref (ra 0)), (1, .int (nI a)), (2, .int (nI b)), (3, .int (bd_b bar))] := hl
        refine lv_iconst (v := nI 0) hx hb dd_M_call_34 (by decide) ?_
        refine lv_istore hx hb dd_M_call_35 hl (by decide) rfl (fun ls hl => ?_)
        have hl : lv_has ls 6 [(5, .int (nI 0)), (4, .int (nI a)), (0, .ref (ra 0)), (1, .int (nI a)), (2, .int (nI b)), (3, .int (bd_b bar))] := hl
        exact lp 160 (some a) 0 ls _ _ (by omega) (fun z hz => by cases hz; omega) rfl hP hS (lv_sub hl [2, 3, 4, 5, 1, 0] rfl)
      · refine lv_iconst (v := -1) hx hb dd_M_call_29 (by decide) ?_
        have eN : nm_call N (ok_call N O B (bd_at (nI a) (N 6 0)) (bd_at q (N 1 0)) bar) = N := by simp only [bd_at_in ha9 (by omega), bd_at_none h26]; simp [ok_call, nm_call, h15]
        have eO : om_call N O (ok_call N O B (bd_at (nI a) (N 6 0)) (bd_at q (N 1 0)) bar) = O := by simp only [bd_at_in ha9 (by omega), bd_at_none h26]; simp [ok_call, om_call, h15]
        have eB : bm_call N B bar (ok_call N O B (bd_at (nI a) (N 6 0)) (bd_at q (N 1 0)) bar) = B := by simp only [bd_at_in ha9 (by omega), bd_at_none h26]; simp [ok_call, bm_call, h15]
        exact W.iret hx hb hr (fun tt htt hWW => ⟨⟨_, (), rfl, (by simp only [bd_at_in ha9 (by omega), bd_at_none h26]; simp [am_call, h15]), by rw [htt, eN, eO, eB]; exact hP, va_K.moved hWW.alike hK⟩, hS.F htt⟩) hS.2.2 dd_M_call_30
    · refine lv_bipush (v := -3) hx hb dd_M_call_18 (by decide) ?_
      have eN : nm_call N (ok_call N O B (bd_at (nI a) (N 6 0)) (bd_at q (N 1 0)) bar) = N := by simp only [bd_at_in ha9 (by omega)]; simp [ok_call, nm_call, h15]
      have eO : om_call N O (ok_call N O B (bd_at (nI a) (N 6 0)) (bd_at q (N 1 0)) bar) = O := by simp only [bd_at_in ha9 (by omega)]; simp [ok_call, om_call, h15]
      have eB : bm_call N B bar (ok_call N O B (bd_at (nI a) (N 6 0)) (bd_at q (N 1 0)) bar) = B := by simp only [bd_at_in ha9 (by omega)]; simp [ok_call, bm_call, h15]
      exact W.iret hx hb hr (fun tt htt hWW => ⟨⟨_, (), rfl, (by simp only [bd_at_in ha9 (by omega)]; simp [am_call, h15]), by rw [htt, eN, eO, eB]; exact hP, va_K.moved hWW.alike hK⟩, hS.F htt⟩) hS.2.2 dd_M_call_20

set_option maxHeartbeats 4000000 in
set_option maxRecDepth 100000 in
theorem rc_begin (l : Launch) (D : va_G) (ra : Nat → Nat) (ca : Nat → ClassId) (hJ : rf_J ra) (N : sp_N) (O : sp_O) (Z : sp_Z) (B : sp_B)  (hok0 : sp_okb O B 161 N) : Met l my_M_begin (Cond.code my_M_begin cd_M_begin 4 (some .int) :: bg_tbl) ({ frames := 5, cells := 0, slots := 0, locals := 116 }) (va_Pc [.ref (ra 0)] (rf_U D ra ca N O Z B)) (va_Qi (fun r (_ : Unit) => r = am_begin N O B) (fun _ uu => rf_U D ra ca (nm_begin N O B) O Z B uu) (rf_A ra)) 0 0 (rf_A ra) := by
  refine Met.ofW (cc := cd_M_begin) (maxL := 4) (ret := (some .int)) (by decide) rfl ?_
  intro p e s m args below meth c s₁ BB hml hv
  obtain ⟨rfl, hP, hK⟩ := hv
  have hx := BB.exec
  have hb := BB.bytes
  have hr := BB.returns
  have hts : ∀ w ∈ bg_tbl, w.before ([.ref (ra 0)] : List Value).toArray s = true := fun w h => atoms_spec (ws := (Cond.code my_M_begin cd_M_begin 4 (some .int) :: bg_tbl)) BB.pre w (List.mem_cons_of_mem _ h)
  have hown : s.vm.findClass rn_M = some m.cls := findClass_of_methodNamed BB.named
  have hlocks := BB.notSynchronized
  have hS : va_S (rf_A ra) s.heap s.heap [] := va_S.rf
  have hl := lv_entry ([.ref (ra 0)]) (n := 4) (Nat.le_of_ble_eq_true rfl)
  rw [lg_entry_eq]
  generalize (lg_sl ([.ref (ra 0)]) ++ List.replicate (4 - (lg_sl ([.ref (ra 0)])).length) Slot.unset).toArray = ls at hl ⊢
  have hl : lv_has ls 4 [(0, .ref (ra 0))] := hl
  have fin : ∀ (M : sp_N) (o : Option Nat) (ls : Array Slot) (H : Heap) (locs : List Loc), sp_Bd M O → sp_bf O B 161 N = M → o = sp_h M O B (M 6 0) → va_P D vw_cl (rf_W ra ca M O Z B) H → va_S (rf_A ra) s.heap H locs → lv_has ls 4 [(0, .ref (ra 0)), (1, .int (bd_o o))] → W p l e (headSpec (Cond.code my_M_begin cd_M_begin 4 (some .int) :: bg_tbl) ({ frames := 5, cells := 0, slots := 0, locals := 116 })).room s m ([.ref (ra 0)] : List Value).toArray below meth c H locs 0 0 (MQ below (va_Qi (fun r (_ : Unit) => r = am_begin N O B) (fun _ uu => rf_U D ra ca (nm_begin N O B) O Z B uu) (rf_A ra)) ([.ref (ra 0)] : List Value).toArray s 0 0 (rf_A ra)) (F0 m 45 ls []) := by
    intro M o ls H locs hBM hf ho hP hS hl
    have hM6 : M 6 0 ≤ 160 := hBM.2.2.2.2.2.2.1
    have hM1 : M 1 0 ≤ 12 := hBM.2.1
    refine lv_iload_n hx hb dd_M_begin_45 rfl (lv_at hl 1 rfl) ?_
    refine bq_oge (tgt := 52) hx hb (fun z hz => by have h9 := sp_h_lt (ho.symm.trans hz); omega) dd_M_begin_46 rfl (fun h46 => ?_) (fun h46 => ?_)
    · obtain ⟨t, ht9⟩ := bd_ne h46
      have ht8 := sp_h_lt (ho.symm.trans ht9)
      have hl : lv_has ls 4 [(0, .ref (ra 0)), (1, .int (nI t))] := by rw [ht9] at hl; exact hl
      refine lv_aload_n hx hb dd_M_begin_52 rfl (lv_at hl 0 rfl) ?_
      refine va_get (D := D) (ci := 4) (v := .ref (ra 8)) (C := rn_M) (T := ft_M) (N := 19) hx hb hts tw_fs_M hown hK hP 0 rfl rfl 8 (by decide) (hts _ tw_fl_M_29) (fun _ h9 => h9) rfl dd_M_begin_53 ?_
      refine lv_iload_n hx hb dd_M_begin_56 rfl (lv_at hl 1 rfl) ?_
      refine lv_iconst (v := nI 3) hx hb dd_M_begin_57 (by decide) ?_
      refine bq_iast hx hb hK hP (rf_D hJ ca M O Z B) hS 6 5 rfl rfl (by omega) (by decide) dd_M_begin_58 (fun H locs hP _ hS => ?_)
      have hP : va_P D vw_cl (rf_W ra ca (sp_u M 8 t 3) O Z B) H := hP
      have lp2 : ∀ (n : Nat) (x : Nat) (K : sp_N) (ls : Array Slot) (H : Heap) (locs : List Loc), (n + x = M 1 0) → (K = sp_pk (sp_u M 8 t 3) x) → (K 1 0 = M 1 0) → (K 6 0 = M 6 0) → (sp_Bd K O) →  va_P D vw_cl (rf_W ra ca K O Z B) H → va_S (rf_A ra) s.heap H locs → lv_has ls 4 [(0, .ref (ra 0)), (1, .int (nI t)), (2, .int (nI x))] → W p l e (headSpec (Cond.code my_M_begin cd_M_begin 4 (some .int) :: bg_tbl) ({ frames := 5, cells := 0, slots := 0, locals := 116 })).room s m ([.ref (ra 0)] : List Value).toArray below meth c H locs 0 0 (MQ below (va_Qi (fun r (_ : Unit) => r = am_begin N O B) (fun _ uu => rf_U D ra ca (nm_begin N O B) O Z B uu) (rf_A ra)) ([.ref (ra 0)] : List Value).toArray s 0 0 (rf_A ra)) (F0 m 61 ls []) := by
        intro n
        induction n with
        | zero =>
          intro x K ls H locs hk hKe h1 h6 hBK hP hS hl
          refine lv_iload_n hx hb dd_M_begin_61 rfl (lv_at hl 2 rfl) ?_
          refine lv_aload_n hx hb dd_M_begin_62 rfl (lv_at hl 0 rfl) ?_
          refine va_get (D := D) (ci := 4) (v := .int (nI (K 1 0))) (C := rn_M) (T := ft_M) (N := 19) hx hb hts tw_fs_M hown hK hP 0 rfl rfl 1 (by decide) (hts _ tw_fl_M_7) (fun _ h9 => h9) rfl dd_M_begin_63 ?_
          refine bq_ge (tgt := 107) hx hb (by omega) (by omega) dd_M_begin_66 rfl (fun h66 => ?_) (fun h66 => ?_)
          · refine lv_iload_n hx hb dd_M_begin_107 rfl (lv_at hl 1 rfl) ?_
            have eN : nm_begin N O B = K := by rw [nm_begin, hf, ← ho, ht9, hKe, show x = M 1 0 by omega]; rfl
            exact W.iret hx hb hr (fun tt htt hWW => ⟨⟨_, (), rfl, (by rw [am_begin, hf, ← ho, ht9]; rfl), by rw [htt, eN]; exact hP, va_K.moved hWW.alike hK⟩, hS.F htt⟩) hS.2.2 dd_M_begin_108
          · exact absurd h66 (by omega)
        | succ n ih =>
          intro x K ls H locs hk hKe h1 h6 hBK hP hS hl
          refine lv_iload_n hx hb dd_M_begin_61 rfl (lv_at hl 2 rfl) ?_
          refine lv_aload_n hx hb dd_M_begin_62 rfl (lv_at hl 0 rfl) ?_
          refine va_get (D := D) (ci := 4) (v := .int (nI (K 1 0))) (C := rn_M) (T := ft_M) (N := 19) hx hb hts tw_fs_M hown hK hP 0 rfl rfl 1 (by decide) (hts _ tw_fl_M_7) (fun _ h9 => h9) rfl dd_M_begin_63 ?_
          refine bq_ge (tgt := 107) hx hb (by omega) (by omega) dd_M_begin_66 rfl (fun h66 => ?_) (fun h66 => ?_)
          · exact absurd h66 (by omega)
          · refine lv_aload_n hx hb dd_M_begin_69 rfl (lv_at hl 0 rfl) ?_
            refine lv_iload_n hx hb dd_M_begin_70 rfl (lv_at hl 2 rfl) ?_
            refine rf_calli (As := [.int (nI x)]) (rest := []) (v := nI (sp_p K x)) ⟨hx, hb, hml, hown, hts⟩ (rc_passing l D ra ca K O Z B hBK x (by omega)) (bg_cwV 1 hts tw_ml_M_72 tw_im_M_passing tw_se_M_passing tw_in_M tw_co_M_passing rfl rfl th_M_passing ⟨Nat.le_of_ble_eq_true rfl, Nat.le_of_ble_eq_true rfl⟩) hK hP rfl hl.1 rfl (by decide) dd_M_begin_71 ⟨Nat.zero_le _, Nat.zero_le _⟩ ?_
            refine lv_istore_n hx hb dd_M_begin_74 rfl hl (by decide) rfl (fun ls hl => ?_)
            have hl : lv_has ls 4 [(3, .int (nI (sp_p K x))), (0, .ref (ra 0)), (1, .int (nI t)), (2, .int (nI x))] := hl
            refine lv_aload_n hx hb dd_M_begin_75 rfl (lv_at hl 1 rfl) ?_
            refine va_get (D := D) (ci := 4) (v := .ref (ra 5)) (C := rn_M) (T := ft_M) (N := 19) hx hb hts tw_fs_M hown hK hP 0 rfl rfl 5 (by decide) (hts _ tw_fl_M_23) (fun _ h9 => h9) rfl dd_M_begin_76 ?_
            refine lv_iload_n hx hb dd_M_begin_79 rfl (lv_at hl 3 rfl) ?_
            refine lv_iload_n hx hb dd_M_begin_80 rfl (lv_at hl 0 rfl) ?_
            refine lv_aload_n hx hb dd_M_begin_81 rfl (lv_at hl 1 rfl) ?_
            refine va_get (D := D) (ci := 4) (v := .ref (ra 5)) (C := rn_M) (T := ft_M) (N := 19) hx hb hts tw_fs_M hown hK hP 0 rfl rfl 5 (by decide) (hts _ tw_fl_M_23) (fun _ h9 => h9) rfl dd_M_begin_82 ?_
            refine lv_iload_n hx hb dd_M_begin_85 rfl (lv_at hl 3 rfl) ?_
            refine bq_iald hx hb hK hP 4 3 rfl rfl (by omega) (by decide) dd_M_begin_86 ?_
            refine bq_le (tgt := 94) hx hb (Nat.lt_of_le_of_lt (sp_c_le _ _) (by omega)) (Nat.lt_of_le_of_lt (hBK.2.2.2.2.2.1 x) (by decide)) dd_M_begin_87 rfl (fun h87 => ?_) (fun h87 => ?_)
            · refine lv_aload_n hx hb dd_M_begin_94 rfl (lv_at hl 1 rfl) ?_
              refine va_get (D := D) (ci := 4) (v := .ref (ra 5)) (C := rn_M) (T := ft_M) (N := 19) hx hb hts tw_fs_M hown hK hP 0 rfl rfl 5 (by decide) (hts _ tw_fl_M_23) (fun _ h9 => h9) rfl dd_M_begin_95 ?_
              refine lv_iload_n hx hb dd_M_begin_98 rfl (lv_at hl 3 rfl) ?_
              refine bq_iald hx hb hK hP 4 3 rfl rfl (by omega) (by decide) dd_M_begin_99 ?_
              refine bq_iast hx hb hK hP (rf_D hJ ca K O Z B) hS 4 3 rfl rfl (by omega) (by decide) dd_M_begin_100 (fun H locs hP _ hS => ?_)
              have hP : va_P D vw_cl (rf_W ra ca (sp_u K 5 x (K 5 x)) O Z B) H := hP
              refine lv_iinc (k := 3) (v := nI (x + 1)) hx hb dd_M_begin_101 hl rfl (nI_1 _) (by decide) rfl (fun ls hl => ?_)
              have hl : lv_has ls 4 [(2, .int (nI (x + 1))), (3, .int (nI (sp_p K x))), (0, .ref (ra 0)), (1, .int (nI t))] := hl
              refine lv_goto (tgt := 61) hx hb dd_M_begin_104 rfl ?_
              exact ih (x + 1) (sp_u K 5 x (K 5 x)) ls H locs (by omega) (by rw [sp_pk, ← hKe]; rw [if_pos h87]) h1 h6 (sp_Bd_5 hBK x _ (by exact hBK.2.2.2.2.2.1 x)) hP hS (lv_sub hl [2, 3, 0] rfl)
            · refine lv_iload_n hx hb dd_M_begin_90 rfl (lv_at hl 0 rfl) ?_
              refine lv_goto (tgt := 100) hx hb dd_M_begin_91 rfl ?_
              refine bq_iast hx hb hK hP (rf_D hJ ca K O Z B) hS 4 3 rfl rfl (by omega) (by decide) dd_M_begin_100 (fun H locs hP _ hS => ?_)
              have hP : va_P D vw_cl (rf_W ra ca (sp_u K 5 x (sp_p K x)) O Z B) H := hP
              refine lv_iinc (k := 3) (v := nI (x + 1)) hx hb dd_M_begin_101 hl rfl (nI_1 _) (by decide) rfl (fun ls hl => ?_)
              have hl : lv_has ls 4 [(2, .int (nI (x + 1))), (3, .int (nI (sp_p K x))), (0, .ref (ra 0)), (1, .int (nI t))] := hl
              refine lv_goto (tgt := 61) hx hb dd_M_begin_104 rfl ?_
              exact ih (x + 1) (sp_u K 5 x (sp_p K x)) ls H locs (by omega) (by rw [sp_pk, ← hKe]; rw [if_neg (by omega)]) h1 h6 (sp_Bd_5 hBK x _ (by have h9 := sp_c_le (fun t => sp_v K t && sp_l K (K 7 t) x) (K 6 0); unfold sp_p; omega)) hP hS (lv_sub hl [2, 3, 0] rfl)
      refine lv_iconst (v := nI 0) hx hb dd_M_begin_59 (by decide) ?_
      refine lv_istore_n hx hb dd_M_begin_60 rfl hl (by decide) rfl (fun ls hl => ?_)
      have hl : lv_has ls 4 [(2, .int (nI 0)), (0, .ref (ra 0)), (1, .int (nI t))] := hl
      exact lp2 (M 1 0) 0 (sp_u M 8 t 3) ls _ _ (by omega) rfl rfl rfl (sp_Bd_8 hBM t 3 (by decide)) hP hS (lv_sub hl [1, 2, 0] rfl)
    · refine lv_bipush (v := -8) hx hb dd_M_begin_49 (by decide) ?_
      have eN : nm_begin N O B = M := by rw [nm_begin, hf, ← ho, h46]; rfl
      exact W.iret hx hb hr (fun tt htt hWW => ⟨⟨_, (), rfl, (by rw [am_begin, hf, ← ho, h46]; rfl), by rw [htt, eN]; exact hP, va_K.moved hWW.alike hK⟩, hS.F htt⟩) hS.2.2 dd_M_begin_51
  have lp : ∀ (n : Nat) (M : sp_N) (k : Nat) (ls : Array Slot) (H : Heap) (locs : List Loc), (n + k = 161) → (sp_okb O B n M) → (sp_bf O B n M = sp_bf O B 161 N) →  va_P D vw_cl (rf_W ra ca M O Z B) H → va_S (rf_A ra) s.heap H locs → lv_has ls 4 [(0, .ref (ra 0)), (1, .int (bd_o (sp_h M O B (M 6 0)))), (2, .int (nI k))] → W p l e (headSpec (Cond.code my_M_begin cd_M_begin 4 (some .int) :: bg_tbl) ({ frames := 5, cells := 0, slots := 0, locals := 116 })).room s m ([.ref (ra 0)] : List Value).toArray below meth c H locs 0 0 (MQ below (va_Qi (fun r (_ : Unit) => r = am_begin N O B) (fun _ uu => rf_U D ra ca (nm_begin N O B) O Z B uu) (rf_A ra)) ([.ref (ra 0)] : List Value).toArray s 0 0 (rf_A ra)) (F0 m 7 ls []) := by
    intro n
    induction n with
    | zero =>
      intro M k ls H locs hk hok he hP hS hl
      have hM6 : M 6 0 ≤ 160 := (sp_okb_Bd hok).2.2.2.2.2.2.1
      refine lv_iload_n hx hb dd_M_begin_7 rfl (lv_at hl 2 rfl) ?_
      refine lv_sipush (v := nI 161) hx hb dd_M_begin_8 (by decide) ?_
      refine bq_ge (tgt := 45) hx hb (by omega) (by decide) dd_M_begin_11 rfl (fun h11 => ?_) (fun h11 => ?_)
      · exact fin M _ ls H locs (sp_okb_Bd hok) he.symm rfl hP hS (lv_sub hl [0, 1] rfl)
      · exact absurd h11 (by omega)
    | succ n ih =>
      intro M k ls H locs hk hok he hP hS hl
      have hM6 : M 6 0 ≤ 160 := (sp_okb_Bd hok).2.2.2.2.2.2.1
      refine lv_iload_n hx hb dd_M_begin_7 rfl (lv_at hl 2 rfl) ?_
      refine lv_sipush (v := nI 161) hx hb dd_M_begin_8 (by decide) ?_
      refine bq_ge (tgt := 45) hx hb (by omega) (by decide) dd_M_begin_11 rfl (fun h11 => ?_) (fun h11 => ?_)
      · exact absurd h11 (by omega)
      · refine lv_iload_n hx hb dd_M_begin_14 rfl (lv_at hl 1 rfl) ?_
        refine bq_olt (tgt := 45) hx hb (fun z hz => by have h9 := sp_h_lt hz; omega) dd_M_begin_15 rfl (fun h15 => ?_) (fun h15 => ?_)
        · exact fin M _ ls H locs (sp_okb_Bd hok) (by rw [← he, sp_bf, h15]) rfl hP hS (lv_sub hl [0, 1] rfl)
        · obtain ⟨t, ht9⟩ := bd_ne h15
          have ht8 := sp_h_lt ht9
          have hl : lv_has ls 4 [(0, .ref (ra 0)), (1, .int (nI t)), (2, .int (nI k))] := by rw [ht9] at hl; exact hl
          refine lv_aload_n hx hb dd_M_begin_18 rfl (lv_at hl 0 rfl) ?_
          refine va_get (D := D) (ci := 4) (v := .ref (ra 15)) (C := rn_M) (T := ft_M) (N := 19) hx hb hts tw_fs_M hown hK hP 0 rfl rfl 15 (by decide) (hts _ tw_fl_M_52) (fun _ h9 => h9) rfl dd_M_begin_19 ?_
          refine lv_iload_n hx hb dd_M_begin_22 rfl (lv_at hl 1 rfl) ?_
          refine bq_zald hx hb hK hP 13 12 rfl rfl (by omega) (by decide) dd_M_begin_23 ?_
          refine bq_zeq (tgt := 45) hx hb dd_M_begin_24 rfl (fun h24 => ?_) (fun h24 => ?_)
          · exact fin M (some t) ls H locs (sp_okb_Bd hok) (by rw [← he, sp_bf, ht9]; simp [h24]) ht9.symm hP hS (lv_sub hl [0, 1] rfl)
          · refine lv_aload_n hx hb dd_M_begin_27 rfl (lv_at hl 0 rfl) ?_
            refine lv_iload_n hx hb dd_M_begin_28 rfl (lv_at hl 1 rfl) ?_
            refine lv_bipush (v := nI 6) hx hb dd_M_begin_29 (by decide) ?_
            refine rf_callwv (As := [.int (nI t), .int (nI 6)]) (rest := []) ⟨hx, hb, hml, hown, hts⟩ (rc_end l D ra ca hJ M O Z B (sp_okb_Bd hok) t 6 (by omega) (by decide)) (bg_cwV 2 hts tw_ml_M_131 tw_im_M_end tw_se_M_end tw_in_M tw_co_M_end rfl rfl th_M_end ⟨Nat.le_of_ble_eq_true rfl, Nat.le_of_ble_eq_true rfl⟩) hK hP hS rfl hl.1 rfl (by decide) dd_M_begin_31 ⟨Nat.zero_le _, Nat.zero_le _⟩ (fun H locs hP hS => ?_)
            refine lv_aload_n hx hb dd_M_begin_34 rfl (lv_at hl 0 rfl) ?_
            refine rf_calli (As := []) (rest := []) (v := bd_o (sp_h (sp_E M O t 6) O B ((sp_E M O t 6) 6 0))) ⟨hx, hb, hml, hown, hts⟩ (rc_chosen l D ra ca (sp_E M O t 6) O Z B (sp_okb_Bd (hok.2 _ ht9 h24))) (bg_cwV 0 hts tw_ml_M_128 tw_im_M_chosen tw_se_M_chosen tw_in_M tw_co_M_chosen rfl rfl th_M_chosen ⟨Nat.le_of_ble_eq_true rfl, Nat.le_of_ble_eq_true rfl⟩) hK hP rfl hl.1 rfl (by decide) dd_M_begin_35 ⟨Nat.zero_le _, Nat.zero_le _⟩ ?_
            refine lv_istore_n hx hb dd_M_begin_38 rfl hl (by decide) rfl (fun ls hl => ?_)
            have hl : lv_has ls 4 [(1, .int (bd_o (sp_h (sp_E M O t 6) O B ((sp_E M O t 6) 6 0)))), (0, .ref (ra 0)), (2, .int (nI k))] := hl
            refine lv_iinc (k := 2) (v := nI (k + 1)) hx hb dd_M_begin_39 hl rfl (nI_1 _) (by decide) rfl (fun ls hl => ?_)
            have hl : lv_has ls 4 [(2, .int (nI (k + 1))), (1, .int (bd_o (sp_h (sp_E M O t 6) O B ((sp_E M O t 6) 6 0)))), (0, .ref (ra 0))] := hl
            refine lv_goto (tgt := 7) hx hb dd_M_begin_42 rfl ?_
            exact ih (sp_E M O t 6) (k + 1) ls H locs (by omega) (hok.2 _ ht9 h24) (by rw [← he, sp_bf, ht9]; simp [h24]) hP hS (lv_sub hl [2, 1, 0] rfl)
  refine lv_aload_n hx hb dd_M_begin_0 rfl (lv_at hl 0 rfl) ?_
  refine rf_calli (As := []) (rest := []) (v := bd_o (sp_h N O B (N 6 0))) ⟨hx, hb, hml, hown, hts⟩ (rc_chosen l D ra ca N O Z B (sp_okb_Bd hok0)) (bg_cwV 0 hts tw_ml_M_128 tw_im_M_chosen tw_se_M_chosen tw_in_M tw_co_M_chosen rfl rfl th_M_chosen ⟨Nat.le_of_ble_eq_true rfl, Nat.le_of_ble_eq_true rfl⟩) hK hP rfl hl.1 rfl (by decide) dd_M_begin_1 ⟨Nat.zero_le _, Nat.zero_le _⟩ ?_
  refine lv_istore_n hx hb dd_M_begin_4 rfl hl (by decide) rfl (fun ls hl => ?_)
  have hl : lv_has ls 4 [(1, .int (bd_o (sp_h N O B (N 6 0)))), (0, .ref (ra 0))] := hl
  refine lv_iconst (v := nI 0) hx hb dd_M_begin_5 (by decide) ?_
  refine lv_istore_n hx hb dd_M_begin_6 rfl hl (by decide) rfl (fun ls hl => ?_)
  have hl : lv_has ls 4 [(2, .int (nI 0)), (1, .int (bd_o (sp_h N O B (N 6 0)))), (0, .ref (ra 0))] := hl
  exact lp 161 N 0 ls _ _ (by omega) hok0 rfl hP hS (lv_sub hl [2, 1, 0] rfl)

set_option maxHeartbeats 4000000 in
set_option maxRecDepth 100000 in
theorem rc_advance (l : Launch) (D : va_G) (ra : Nat → Nat) (ca : Nat → ClassId) (hJ : rf_J ra) (N : sp_N) (O : sp_O) (Z : sp_Z) (B : sp_B)  (d : Int64) (hok0 : sp_oka O (zm_adv Z d) 160 N) : Met l my_M_advance (Cond.code my_M_advance cd_M_advance 5 (some .int) :: bg_tbl) ({ frames := 1, cells := 0, slots := 0, locals := 22 }) (va_Pc [.ref (ra 0), .long d] (rf_U D ra ca N O Z B)) (va_Qi (fun r (_ : Unit) => r = am_adv N Z d) (fun _ uu => rf_U D ra ca (nm_adv N Z d) O (zm_adv Z d) B uu) (rf_A ra)) 0 0 (rf_A ra) := by
  refine Met.ofW (cc := cd_M_advance) (maxL := 5) (ret := (some .int)) (by decide) rfl ?_
  intro p e s m args below meth c s₁ BB hml hv
  obtain ⟨rfl, hP, hK⟩ := hv
  have hx := BB.exec
  have hb := BB.bytes
  have hr := BB.returns
  have hts : ∀ w ∈ bg_tbl, w.before ([.ref (ra 0), .long d] : List Value).toArray s = true := fun w h => atoms_spec (ws := (Cond.code my_M_advance cd_M_advance 5 (some .int) :: bg_tbl)) BB.pre w (List.mem_cons_of_mem _ h)
  have hown : s.vm.findClass rn_M = some m.cls := findClass_of_methodNamed BB.named
  have hlocks := BB.notSynchronized
  have hS : va_S (rf_A ra) s.heap s.heap [] := va_S.rf
  have hl := lv_entry ([.ref (ra 0), .long d]) (n := 5) (Nat.le_of_ble_eq_true rfl)
  rw [lg_entry_eq]
  generalize (lg_sl ([.ref (ra 0), .long d]) ++ List.replicate (5 - (lg_sl ([.ref (ra 0), .long d])).length) Slot.unset).toArray = ls at hl ⊢
  have hl : lv_has ls 5 [(0, .ref (ra 0)), (1, .long d)] := hl
  refine lv_lload_n hx hb dd_M_advance_0 rfl (lv_at hl 1 rfl) ?_
  refine lv_lconst (v := 0) hx hb dd_M_advance_1 rfl ?_
  refine W.lcmp hx hb dd_M_advance_2 ?_
  refine bq_lge (tgt := 9) hx hb dd_M_advance_3 rfl (fun h3 => ?_) (fun h3 => ?_)
  · refine lv_aload_n hx hb dd_M_advance_9 rfl (lv_at hl 0 rfl) ?_
    refine lv_lload_n hx hb dd_M_advance_10 rfl (lv_at hl 1 rfl) ?_
    refine lv_ldc2 (v := 9223372036854775806) hx hb hown (hts _ tw_k2_M_135) dd_M_advance_11 ?_
    refine lv_aload_n hx hb dd_M_advance_14 rfl (lv_at hl 0 rfl) ?_
    refine va_get (D := D) (ci := 4) (v := .long (Z 18 0)) (C := rn_M) (T := ft_M) (N := 19) hx hb hts tw_fs_M hown hK hP 0 rfl rfl 18 (by decide) (hts _ tw_fl_M_111) (fun _ h9 => h9) rfl dd_M_advance_15 ?_
    refine lv_lsub hx hb dd_M_advance_18 ?_
    refine W.lcmp hx hb dd_M_advance_19 ?_
    refine bq_lle (tgt := 29) hx hb dd_M_advance_20 rfl (fun h20 => ?_) (fun h20 => ?_)
    · refine lv_aload_n hx hb dd_M_advance_29 rfl (lv_at hl 0 rfl) ?_
      refine va_get (D := D) (ci := 4) (v := .long (Z 18 0)) (C := rn_M) (T := ft_M) (N := 19) hx hb hts tw_fs_M hown hK hP 0 rfl rfl 18 (by decide) (hts _ tw_fl_M_111) (fun _ h9 => h9) rfl dd_M_advance_30 ?_
      refine lv_lload_n hx hb dd_M_advance_33 rfl (lv_at hl 1 rfl) ?_
      refine lv_ladd hx hb dd_M_advance_34 ?_
      refine va_put (D := D) (ci := 4) (v := .long ((Z 18 0) + d)) (ty := .long) (C := rn_M) (T := ft_M) (N := 19) hx hb hts tw_fs_M fy_M fo_M fn_M hown hK hP (rf_D hJ ca N O Z B) hS 0 rfl rfl 18 (by decide) (hts _ tw_fl_M_111) (fun _ h9 => h9) rfl (by decide +kernel) rfl rfl (Nat.le_of_ble_eq_true rfl) dd_M_advance_35 (fun H locs hP _ hS => ?_)
      have hP : va_P D vw_cl (rf_W ra ca N O (sp_u Z 18 0 ((Z 18 0) + d)) B) H := hP
      have eZ : zm_adv Z d = sp_u Z 18 0 ((Z 18 0) + d) := by simp [zm_adv, Int64.not_lt.mpr h3, h20]
      rw [← eZ] at hP
      have lp : ∀ (n : Nat) (M : sp_N) (k : Nat) (ls : Array Slot) (H : Heap) (locs : List Loc), (n + k = 160) → (sp_oka O (zm_adv Z d) n M) → (sp_av (zm_adv Z d) n M = sp_av (zm_adv Z d) 160 N) → (sp_ac (zm_adv Z d) n M + k = sp_ac (zm_adv Z d) 160 N) →  va_P D vw_cl (rf_W ra ca M O (zm_adv Z d) B) H → va_S (rf_A ra) s.heap H locs → lv_has ls 5 [(0, .ref (ra 0)), (3, .int (nI k)), (4, .int (bd_o (sp_d M (zm_adv Z d) (M 6 0))))] → W p l e (headSpec (Cond.code my_M_advance cd_M_advance 5 (some .int) :: bg_tbl) ({ frames := 1, cells := 0, slots := 0, locals := 22 })).room s m ([.ref (ra 0), .long d] : List Value).toArray below meth c H locs 0 0 (MQ below (va_Qi (fun r (_ : Unit) => r = am_adv N Z d) (fun _ uu => rf_U D ra ca (nm_adv N Z d) O (zm_adv Z d) B uu) (rf_A ra)) ([.ref (ra 0), .long d] : List Value).toArray s 0 0 (rf_A ra)) (F0 m 46 ls []) := by
        intro n
        induction n with
        | zero =>
          intro M k ls H locs hk hok he1 he2 hP hS hl
          have hM6 : M 6 0 ≤ 160 := (sp_oka_Bd hok).2.2.2.2.2.2.1
          refine lv_iload hx hb dd_M_advance_46 (lv_at hl 2 rfl) ?_
          refine bq_olt (tgt := 77) hx hb (fun z hz => by have h9 := sp_d_lt hz; omega) dd_M_advance_48 rfl (fun h48 => ?_) (fun h48 => ?_)
          · have h9ac : sp_ac (zm_adv Z d) 0 M = 0 := rfl
            have h9av : sp_av (zm_adv Z d) 0 M = M := rfl
            refine lv_iload_n hx hb dd_M_advance_77 rfl (lv_at hl 1 rfl) ?_
            have eN : nm_adv N Z d = M := by rw [nm_adv, if_neg (Int64.not_lt.mpr h3), ← he1, h9av]
            exact W.iret hx hb hr (fun tt htt hWW => ⟨⟨_, (), rfl, (by rw [am_adv, if_neg (Int64.not_lt.mpr h3), ← he2, h9ac]; simp), by rw [htt, eN]; exact hP, va_K.moved hWW.alike hK⟩, hS.F htt⟩) hS.2.2 dd_M_advance_78
          · obtain ⟨t, ht9⟩ := bd_ne h48
            have ht8 := sp_d_lt ht9
            have hl : lv_has ls 5 [(0, .ref (ra 0)), (3, .int (nI k)), (4, .int (nI t))] := by rw [ht9] at hl; exact hl
            refine lv_iload_n hx hb dd_M_advance_51 rfl (lv_at hl 1 rfl) ?_
            refine lv_sipush (v := nI 160) hx hb dd_M_advance_52 (by decide) ?_
            refine bq_ge (tgt := 77) hx hb (by omega) (by decide) dd_M_advance_55 rfl (fun h55 => ?_) (fun h55 => ?_)
            · refine lv_iload_n hx hb dd_M_advance_77 rfl (lv_at hl 1 rfl) ?_
              have eN : nm_adv N Z d = M := by rw [nm_adv, if_neg (Int64.not_lt.mpr h3), ← he1, sp_av]
              exact W.iret hx hb hr (fun tt htt hWW => ⟨⟨_, (), rfl, (by rw [am_adv, if_neg (Int64.not_lt.mpr h3), ← he2]; simp [sp_ac]), by rw [htt, eN]; exact hP, va_K.moved hWW.alike hK⟩, hS.F htt⟩) hS.2.2 dd_M_advance_78
            · exact absurd h55 (by omega)
        | succ n ih =>
          intro M k ls H locs hk hok he1 he2 hP hS hl
          have hM6 : M 6 0 ≤ 160 := (sp_oka_Bd hok).2.2.2.2.2.2.1
          refine lv_iload hx hb dd_M_advance_46 (lv_at hl 2 rfl) ?_
          refine bq_olt (tgt := 77) hx hb (fun z hz => by have h9 := sp_d_lt hz; omega) dd_M_advance_48 rfl (fun h48 => ?_) (fun h48 => ?_)
          · have h9ac : sp_ac (zm_adv Z d) (n + 1) M = 0 := by rw [sp_ac, h48]
            have h9av : sp_av (zm_adv Z d) (n + 1) M = M := by rw [sp_av, h48]
            refine lv_iload_n hx hb dd_M_advance_77 rfl (lv_at hl 1 rfl) ?_
            have eN : nm_adv N Z d = M := by rw [nm_adv, if_neg (Int64.not_lt.mpr h3), ← he1, h9av]
            exact W.iret hx hb hr (fun tt htt hWW => ⟨⟨_, (), rfl, (by rw [am_adv, if_neg (Int64.not_lt.mpr h3), ← he2, h9ac]; simp), by rw [htt, eN]; exact hP, va_K.moved hWW.alike hK⟩, hS.F htt⟩) hS.2.2 dd_M_advance_78
          · obtain ⟨t, ht9⟩ := bd_ne h48
            have ht8 := sp_d_lt ht9
            have hl : lv_has ls 5 [(0, .ref (ra 0)), (3, .int (nI k)), (4, .int (nI t))] := by rw [ht9] at hl; exact hl
            refine lv_iload_n hx hb dd_M_advance_51 rfl (lv_at hl 1 rfl) ?_
            refine lv_sipush (v := nI 160) hx hb dd_M_advance_52 (by decide) ?_
            refine bq_ge (tgt := 77) hx hb (by omega) (by decide) dd_M_advance_55 rfl (fun h55 => ?_) (fun h55 => ?_)
            · exact absurd h55 (by omega)
            · refine lv_aload_n hx hb dd_M_advance_58 rfl (lv_at hl 0 rfl) ?_
              refine lv_iload hx hb dd_M_advance_59 (lv_at hl 2 rfl) ?_
              refine rf_callwv (As := [.int (nI t)]) (rest := []) ⟨hx, hb, hml, hown, hts⟩ (rc_line l D ra ca hJ M O (zm_adv Z d) B t (by omega)) (bg_cwV 1 hts tw_ml_M_95 tw_im_M_line tw_se_M_line tw_in_M tw_co_M_line rfl rfl th_M_line ⟨Nat.le_of_ble_eq_true rfl, Nat.le_of_ble_eq_true rfl⟩) hK hP hS rfl hl.1 rfl (by decide) dd_M_advance_61 ⟨Nat.zero_le _, Nat.zero_le _⟩ (fun H locs hP hS => ?_)
              refine lv_iload_n hx hb dd_M_advance_64 rfl (lv_at hl 1 rfl) ?_
              refine lv_iconst (v := nI 1) hx hb dd_M_advance_65 (by decide) ?_
              refine lv_iadd hx hb dd_M_advance_66 ?_
              rw [nI_add]
              refine lv_istore_n hx hb dd_M_advance_67 rfl hl (by decide) rfl (fun ls hl => ?_)
              have hl : lv_has ls 5 [(3, .int (nI (k + 1))), (0, .ref (ra 0)), (4, .int (nI t))] := hl
              refine lv_aload_n hx hb dd_M_advance_68 rfl (lv_at hl 1 rfl) ?_
              refine rf_calli (As := []) (rest := []) (v := bd_o (sp_d (sp_L M t) (zm_adv Z d) ((sp_L M t) 6 0))) ⟨hx, hb, hml, hown, hts⟩ (rc_due l D ra ca (sp_L M t) O (zm_adv Z d) B (sp_oka_Bd (hok.2 _ ht9))) (bg_cwV 0 hts tw_ml_M_137 tw_im_M_due tw_se_M_due tw_in_M tw_co_M_due rfl rfl th_M_due ⟨Nat.le_of_ble_eq_true rfl, Nat.le_of_ble_eq_true rfl⟩) hK hP rfl hl.1 rfl (by decide) dd_M_advance_69 ⟨Nat.zero_le _, Nat.zero_le _⟩ ?_
              refine lv_istore hx hb dd_M_advance_72 hl (by decide) rfl (fun ls hl => ?_)
              have hl : lv_has ls 5 [(4, .int (bd_o (sp_d (sp_L M t) (zm_adv Z d) ((sp_L M t) 6 0)))), (3, .int (nI (k + 1))), (0, .ref (ra 0))] := hl
              refine lv_goto (tgt := 46) hx hb dd_M_advance_74 rfl ?_
              exact ih (sp_L M t) (k + 1) ls H locs (by omega) (hok.2 _ ht9) (by rw [← he1, sp_av, ht9]) (by rw [← he2, sp_ac, ht9]; simp only []; omega) hP hS (lv_sub hl [2, 1, 0] rfl)
      refine lv_iconst (v := nI 0) hx hb dd_M_advance_38 (by decide) ?_
      refine lv_istore_n hx hb dd_M_advance_39 rfl hl (by decide) rfl (fun ls hl => ?_)
      have hl : lv_has ls 5 [(3, .int (nI 0)), (0, .ref (ra 0)), (1, .long d)] := hl
      refine lv_aload_n hx hb dd_M_advance_40 rfl (lv_at hl 1 rfl) ?_
      refine rf_calli (As := []) (rest := []) (v := bd_o (sp_d N (zm_adv Z d) (N 6 0))) ⟨hx, hb, hml, hown, hts⟩ (rc_due l D ra ca N O (zm_adv Z d) B (sp_oka_Bd hok0)) (bg_cwV 0 hts tw_ml_M_137 tw_im_M_due tw_se_M_due tw_in_M tw_co_M_due rfl rfl th_M_due ⟨Nat.le_of_ble_eq_true rfl, Nat.le_of_ble_eq_true rfl⟩) hK hP rfl hl.1 rfl (by decide) dd_M_advance_41 ⟨Nat.zero_le _, Nat.zero_le _⟩ ?_
      refine lv_istore hx hb dd_M_advance_44 hl (by decide) rfl (fun ls hl => ?_)
      have hl : lv_has ls 5 [(4, .int (bd_o (sp_d N (zm_adv Z d) (N 6 0)))), (3, .int (nI 0)), (0, .ref (ra 0)), (1, .long d)] := hl
      exact lp 160 N 0 ls _ _ (by omega) hok0 rfl rfl hP hS (lv_sub hl [2, 1, 0] rfl)
    · refine lv_ldc2 (v := 9223372036854775806) hx hb hown (hts _ tw_k2_M_135) dd_M_advance_23 ?_
      refine lv_goto (tgt := 35) hx hb dd_M_advance_26 rfl ?_
      refine va_put (D := D) (ci := 4) (v := .long (9223372036854775806)) (ty := .long) (C := rn_M) (T := ft_M) (N := 19) hx hb hts tw_fs_M fy_M fo_M fn_M hown hK hP (rf_D hJ ca N O Z B) hS 0 rfl rfl 18 (by decide) (hts _ tw_fl_M_111) (fun _ h9 => h9) rfl (by decide +kernel) rfl rfl (Nat.le_of_ble_eq_true rfl) dd_M_advance_35 (fun H locs hP _ hS => ?_)
      have hP : va_P D vw_cl (rf_W ra ca N O (sp_u Z 18 0 9223372036854775806) B) H := hP
      have eZ : zm_adv Z d = sp_u Z 18 0 9223372036854775806 := by simp [zm_adv, Int64.not_lt.mpr h3, Int64.not_le.mpr h20]
      rw [← eZ] at hP
      have lp : ∀ (n : Nat) (M : sp_N) (k : Nat) (ls : Array Slot) (H : Heap) (locs : List Loc), (n + k = 160) → (sp_oka O (zm_adv Z d) n M) → (sp_av (zm_adv Z d) n M = sp_av (zm_adv Z d) 160 N) → (sp_ac (zm_adv Z d) n M + k = sp_ac (zm_adv Z d) 160 N) →  va_P D vw_cl (rf_W ra ca M O (zm_adv Z d) B) H → va_S (rf_A ra) s.heap H locs → lv_has ls 5 [(0, .ref (ra 0)), (3, .int (nI k)), (4, .int (bd_o (sp_d M (zm_adv Z d) (M 6 0))))] → W p l e (headSpec (Cond.code my_M_advance cd_M_advance 5 (some .int) :: bg_tbl) ({ frames := 1, cells := 0, slots := 0, locals := 22 })).room s m ([.ref (ra 0), .long d] : List Value).toArray below meth c H locs 0 0 (MQ below (va_Qi (fun r (_ : Unit) => r = am_adv N Z d) (fun _ uu => rf_U D ra ca (nm_adv N Z d) O (zm_adv Z d) B uu) (rf_A ra)) ([.ref (ra 0), .long d] : List Value).toArray s 0 0 (rf_A ra)) (F0 m 46 ls []) := by
        intro n
        induction n with
        | zero =>
          intro M k ls H locs hk hok he1 he2 hP hS hl
          have hM6 : M 6 0 ≤ 160 := (sp_oka_Bd hok).2.2.2.2.2.2.1
          refine lv_iload hx hb dd_M_advance_46 (lv_at hl 2 rfl) ?_
          refine bq_olt (tgt := 77) hx hb (fun z hz => by have h9 := sp_d_lt hz; omega) dd_M_advance_48 rfl (fun h48 => ?_) (fun h48 => ?_)
          · have h9ac : sp_ac (zm_adv Z d) 0 M = 0 := rfl
            have h9av : sp_av (zm_adv Z d) 0 M = M := rfl
            refine lv_iload_n hx hb dd_M_advance_77 rfl (lv_at hl 1 rfl) ?_
            have eN : nm_adv N Z d = M := by rw [nm_adv, if_neg (Int64.not_lt.mpr h3), ← he1, h9av]
            exact W.iret hx hb hr (fun tt htt hWW => ⟨⟨_, (), rfl, (by rw [am_adv, if_neg (Int64.not_lt.mpr h3), ← he2, h9ac]; simp), by rw [htt, eN]; exact hP, va_K.moved hWW.alike hK⟩, hS.F htt⟩) hS.2.2 dd_M_advance_78
          · obtain ⟨t, ht9⟩ := bd_ne h48
            have ht8 := sp_d_lt ht9
            have hl : lv_has ls 5 [(0, .ref (ra 0)), (3, .int (nI k)), (4, .int (nI t))] := by rw [ht9] at hl; exact hl
            refine lv_iload_n hx hb dd_M_advance_51 rfl (lv_at hl 1 rfl) ?_
            refine lv_sipush (v := nI 160) hx hb dd_M_advance_52 (by decide) ?_
            refine bq_ge (tgt := 77) hx hb (by omega) (by decide) dd_M_advance_55 rfl (fun h55 => ?_) (fun h55 => ?_)
            · refine lv_iload_n hx hb dd_M_advance_77 rfl (lv_at hl 1 rfl) ?_
              have eN : nm_adv N Z d = M := by rw [nm_adv, if_neg (Int64.not_lt.mpr h3), ← he1, sp_av]
              exact W.iret hx hb hr (fun tt htt hWW => ⟨⟨_, (), rfl, (by rw [am_adv, if_neg (Int64.not_lt.mpr h3), ← he2]; simp [sp_ac]), by rw [htt, eN]; exact hP, va_K.moved hWW.alike hK⟩, hS.F htt⟩) hS.2.2 dd_M_advance_78
            · exact absurd h55 (by omega)
        | succ n ih =>
          intro M k ls H locs hk hok he1 he2 hP hS hl
          have hM6 : M 6 0 ≤ 160 := (sp_oka_Bd hok).2.2.2.2.2.2.1
          refine lv_iload hx hb dd_M_advance_46 (lv_at hl 2 rfl) ?_
          refine bq_olt (tgt := 77) hx hb (fun z hz => by have h9 := sp_d_lt hz; omega) dd_M_advance_48 rfl (fun h48 => ?_) (fun h48 => ?_)
          · have h9ac : sp_ac (zm_adv Z d) (n + 1) M = 0 := by rw [sp_ac, h48]
            have h9av : sp_av (zm_adv Z d) (n + 1) M = M := by rw [sp_av, h48]
            refine lv_iload_n hx hb dd_M_advance_77 rfl (lv_at hl 1 rfl) ?_
            have eN : nm_adv N Z d = M := by rw [nm_adv, if_neg (Int64.not_lt.mpr h3), ← he1, h9av]
            exact W.iret hx hb hr (fun tt htt hWW => ⟨⟨_, (), rfl, (by rw [am_adv, if_neg (Int64.not_lt.mpr h3), ← he2, h9ac]; simp), by rw [htt, eN]; exact hP, va_K.moved hWW.alike hK⟩, hS.F htt⟩) hS.2.2 dd_M_advance_78
          · obtain ⟨t, ht9⟩ := bd_ne h48
            have ht8 := sp_d_lt ht9
            have hl : lv_has ls 5 [(0, .ref (ra 0)), (3, .int (nI k)), (4, .int (nI t))] := by rw [ht9] at hl; exact hl
            refine lv_iload_n hx hb dd_M_advance_51 rfl (lv_at hl 1 rfl) ?_
            refine lv_sipush (v := nI 160) hx hb dd_M_advance_52 (by decide) ?_
            refine bq_ge (tgt := 77) hx hb (by omega) (by decide) dd_M_advance_55 rfl (fun h55 => ?_) (fun h55 => ?_)
            · exact absurd h55 (by omega)
            · refine lv_aload_n hx hb dd_M_advance_58 rfl (lv_at hl 0 rfl) ?_
              refine lv_iload hx hb dd_M_advance_59 (lv_at hl 2 rfl) ?_
              refine rf_callwv (As := [.int (nI t)]) (rest := []) ⟨hx, hb, hml, hown, hts⟩ (rc_line l D ra ca hJ M O (zm_adv Z d) B t (by omega)) (bg_cwV 1 hts tw_ml_M_95 tw_im_M_line tw_se_M_line tw_in_M tw_co_M_line rfl rfl th_M_line ⟨Nat.le_of_ble_eq_true rfl, Nat.le_of_ble_eq_true rfl⟩) hK hP hS rfl hl.1 rfl (by decide) dd_M_advance_61 ⟨Nat.zero_le _, Nat.zero_le _⟩ (fun H locs hP hS => ?_)
              refine lv_iload_n hx hb dd_M_advance_64 rfl (lv_at hl 1 rfl) ?_
              refine lv_iconst (v := nI 1) hx hb dd_M_advance_65 (by decide) ?_
              refine lv_iadd hx hb dd_M_advance_66 ?_
              rw [nI_add]
              refine lv_istore_n hx hb dd_M_advance_67 rfl hl (by decide) rfl (fun ls hl => ?_)
              have hl : lv_has ls 5 [(3, .int (nI (k + 1))), (0, .ref (ra 0)), (4, .int (nI t))] := hl
              refine lv_aload_n hx hb dd_M_advance_68 rfl (lv_at hl 1 rfl) ?_
              refine rf_calli (As := []) (rest := []) (v := bd_o (sp_d (sp_L M t) (zm_adv Z d) ((sp_L M t) 6 0))) ⟨hx, hb, hml, hown, hts⟩ (rc_due l D ra ca (sp_L M t) O (zm_adv Z d) B (sp_oka_Bd (hok.2 _ ht9))) (bg_cwV 0 hts tw_ml_M_137 tw_im_M_due tw_se_M_due tw_in_M tw_co_M_due rfl rfl th_M_due ⟨Nat.le_of_ble_eq_true rfl, Nat.le_of_ble_eq_true rfl⟩) hK hP rfl hl.1 rfl (by decide) dd_M_advance_69 ⟨Nat.zero_le _, Nat.zero_le _⟩ ?_
              refine lv_istore hx hb dd_M_advance_72 hl (by decide) rfl (fun ls hl => ?_)
              have hl : lv_has ls 5 [(4, .int (bd_o (sp_d (sp_L M t) (zm_adv Z d) ((sp_L M t) 6 0)))), (3, .int (nI (k + 1))), (0, .ref (ra 0))] := hl
              refine lv_goto (tgt := 46) hx hb dd_M_advance_74 rfl ?_
              exact ih (sp_L M t) (k + 1) ls H locs (by omega) (hok.2 _ ht9) (by rw [← he1, sp_av, ht9]) (by rw [← he2, sp_ac, ht9]; simp only []; omega) hP hS (lv_sub hl [2, 1, 0] rfl)
      refine lv_iconst (v := nI 0) hx hb dd_M_advance_38 (by decide) ?_
      refine lv_istore_n hx hb dd_M_advance_39 rfl hl (by decide) rfl (fun ls hl => ?_)
      have hl : lv_has ls 5 [(3, .int (nI 0)), (0, .ref (ra 0)), (1, .long d)] := hl
      refine lv_aload_n hx hb dd_M_advance_40 rfl (lv_at hl 1 rfl) ?_
      refine rf_calli (As := []) (rest := []) (v := bd_o (sp_d N (zm_adv Z d) (N 6 0))) ⟨hx, hb, hml, hown, hts⟩ (rc_due l D ra ca N O (zm_adv Z d) B (sp_oka_Bd hok0)) (bg_cwV 0 hts tw_ml_M_137 tw_im_M_due tw_se_M_due tw_in_M tw_co_M_due rfl rfl th_M_due ⟨Nat.le_of_ble_eq_true rfl, Nat.le_of_ble_eq_true rfl⟩) hK hP rfl hl.1 rfl (by decide) dd_M_advance_41 ⟨Nat.zero_le _, Nat.zero_le _⟩ ?_
      refine lv_istore hx hb dd_M_advance_44 hl (by decide) rfl (fun ls hl => ?_)
      have hl : lv_has ls 5 [(4, .int (bd_o (sp_d N (zm_adv Z d) (N 6 0)))), (3, .int (nI 0)), (0, .ref (ra 0)), (1, .long d)] := hl
      exact lp 160 N 0 ls _ _ (by omega) hok0 rfl rfl hP hS (lv_sub hl [2, 1, 0] rfl)
  · refine lv_bipush (v := -9) hx hb dd_M_advance_6 (by decide) ?_
    have eN : nm_adv N Z d = N := by rw [nm_adv, if_pos h3]
    have eZ : zm_adv Z d = Z := by rw [zm_adv, if_pos h3]
    exact W.iret hx hb hr (fun tt htt hWW => ⟨⟨_, (), rfl, (by rw [am_adv, if_pos h3]), by rw [htt, eN, eZ]; exact hP, va_K.moved hWW.alike hK⟩, hS.F htt⟩) hS.2.2 dd_M_advance_8

set_option maxHeartbeats 4000000 in
set_option maxRecDepth 100000 in
theorem rc_now (l : Launch) (D : va_G) (ra : Nat → Nat) (ca : Nat → ClassId) (N : sp_N) (O : sp_O) (Z : sp_Z) (B : sp_B) : Met l my_M_now (Cond.code my_M_now cd_M_now 1 (some .long) :: bg_tbl) ({ frames := 0, cells := 0, slots := 0, locals := 0 }) (va_Pc [.ref (ra 0)] (rf_U D ra ca N O Z B)) (vp_Sl (fun r => r = Z 18 0)) 0 0 (fun _ => False) := by
  refine Met.ofW (cc := cd_M_now) (maxL := 1) (ret := (some .long)) (by decide) rfl ?_
  intro p e s m args below meth c s₁ BB hml hv
  obtain ⟨rfl, hP, hK⟩ := hv
  have hx := BB.exec
  have hb := BB.bytes
  have hr := BB.returns
  have hts : ∀ w ∈ bg_tbl, w.before ([.ref (ra 0)] : List Value).toArray s = true := fun w h => atoms_spec (ws := (Cond.code my_M_now cd_M_now 1 (some .long) :: bg_tbl)) BB.pre w (List.mem_cons_of_mem _ h)
  have hown : s.vm.findClass rn_M = some m.cls := findClass_of_methodNamed BB.named
  have hlocks := BB.notSynchronized
  have hl := lv_entry ([.ref (ra 0)]) (n := 1) (Nat.le_of_ble_eq_true rfl)
  rw [lg_entry_eq]
  generalize (lg_sl ([.ref (ra 0)]) ++ List.replicate (1 - (lg_sl ([.ref (ra 0)])).length) Slot.unset).toArray = ls at hl ⊢
  have hl : lv_has ls 1 [(0, .ref (ra 0))] := hl
  refine lv_aload_n hx hb dd_M_now_0 rfl (lv_at hl 0 rfl) ?_
  refine va_get (D := D) (ci := 4) (v := .long (Z 18 0)) (C := rn_M) (T := ft_M) (N := 19) hx hb hts tw_fs_M hown hK hP 0 rfl rfl 18 (by decide) (hts _ tw_fl_M_111) (fun _ h9 => h9) rfl dd_M_now_1 ?_
  exact W.lret hx hb hr (fun tt htt hWW => ⟨_, rfl, rfl, htt⟩) (fun _ h => by cases h) dd_M_now_4
