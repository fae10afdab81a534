/-! Part 33: the class: begin, advance. By wip/gen/gen_cls7.py. -/
set_option maxHeartbeats 4000000 in
set_option maxRecDepth 100000 in
theorem cc_D_begin (l : Launch) (D : va_G) (ks : List Nat) (ad : Nat → Nat) (ca : Nat → ClassId) (hJ : cw_J ks ad) (M : sp_N) (X : sp_B) (F : sp_O) (G : sp_Z) (N : sp_N) (O : sp_O) (B : sp_B) (hC : cl_S M X F N O B) (hks : cl_k ks N) (hok0 : cs_okb N O 161 M X F) : Met l my_D_begin (Cond.code my_D_begin cd_D_begin 3 (some .int) :: bg_tbl) ({ frames := 5, cells := 0, slots := 0, locals := 105 }) (va_Pc [.ref (ad 0)] (cw_U D ks ad ca M X F G)) (va_Qi (fun r (_ : Unit) => r = (cs_bg N 161 M X F).1) (fun _ uu => cw_U D ks ad ca ((cs_bg N 161 M X F).2.1) ((cs_bg N 161 M X F).2.2.1) ((cs_bg N 161 M X F).2.2.2) G uu) (cw_A ks ad)) 0 0 (cw_A ks ad) := by
  refine Met.ofW (cc := cd_D_begin) (maxL := 3) (ret := (some .int)) (by decide) rfl ?_
  intro p e s m args below meth c s₁ BB hml hv
  obtain ⟨rfl, hP, hK⟩ := hv
  have hx := BB.exec
  have hb := BB.bytes
  have hr := BB.returns
  have hts : ∀ w ∈ bg_tbl, w.before ([.ref (ad 0)] : List Value).toArray s = true := fun w h => atoms_spec (ws := (Cond.code my_D_begin cd_D_begin 3 (some .int) :: bg_tbl)) BB.pre w (List.mem_cons_of_mem _ h)
  have hown : s.vm.findClass rn_D = some m.cls := findClass_of_methodNamed BB.named
  have hlocks := BB.notSynchronized
  have h12 := cl_12 hC
  have h160 := cl_160 hC
  have h3q := cl_3 hC
  have hM4 := cl_M4 hC
  have hM5 := cl_M5 hC
  have hS : va_S (cw_A ks ad) s.heap s.heap [] := va_S.rf
  have hl := lv_entry ([.ref (ad 0)]) (n := 3) (Nat.le_of_ble_eq_true rfl)
  rw [lg_entry_eq]
  generalize (lg_sl ([.ref (ad 0)]) ++ List.replicate (3 - (lg_sl ([.ref (ad 0)])).length) Slot.unset).toArray = ls at hl ⊢
  have hl : lv_has ls 3 [(0, .ref (ad 0))] := hl
  have lp : ∀ (n : Nat) (k : Nat) (K : sp_N) (E : sp_O) (ls : Array Slot) (H : Heap) (locs : List Loc), (n + k = 161) → cl_S K X E N O B → cs_okb N O n K X E → (cs_bg N n K X E = cs_bg N 161 M X F) → va_P D vw_cl (cw_W ks ad ca K X E G) H → va_S (cw_A ks ad) s.heap H locs → lv_has ls 3 [(0, .ref (ad 0)), (1, .int (nI k))] → W p l e (headSpec (Cond.code my_D_begin cd_D_begin 3 (some .int) :: bg_tbl) ({ frames := 5, cells := 0, slots := 0, locals := 105 })).room s m ([.ref (ad 0)] : List Value).toArray below meth c H locs 0 0 (MQ below (va_Qi (fun r (_ : Unit) => r = (cs_bg N 161 M X F).1) (fun _ uu => cw_U D ks ad ca ((cs_bg N 161 M X F).2.1) ((cs_bg N 161 M X F).2.2.1) ((cs_bg N 161 M X F).2.2.2) G uu) (cw_A ks ad)) ([.ref (ad 0)] : List Value).toArray s 0 0 (cw_A ks ad)) (F0 m 2 ls []) := by
    intro n
    induction n with
    | zero =>
      intro k K E ls H locs hk hC hok he hP hS hl
      have hM4 := cl_M4 hC
      have hM5 := cl_M5 hC
      refine lv_iload_n hx hb dd_D_begin_2 rfl (lv_at hl 1 rfl) ?_
      refine lv_sipush (v := nI 160) hx hb dd_D_begin_3 (by decide) ?_
      refine bq_gt (tgt := 58) hx hb (by omega) (by decide) dd_D_begin_6 rfl (fun h6 => ?_) (fun h6 => ?_)
      · refine lv_bipush (v := -8) hx hb dd_D_begin_58 (by decide) ?_
        have eM : (cs_bg N 161 M X F).2.1 = K := by rw [← he]; rfl
        have eX : (cs_bg N 161 M X F).2.2.1 = X := by rw [← he]; rfl
        have eF : (cs_bg N 161 M X F).2.2.2 = E := by rw [← he]; rfl
        exact W.iret hx hb hr (fun tt htt hWW => ⟨⟨_, (), rfl, (by rw [← he]; rfl), by rw [htt, eM, eX, eF]; exact hP, va_K.moved hWW.alike hK⟩, hS.F htt⟩) hS.2.2 dd_D_begin_60
      · exact absurd h6 (by omega)
    | succ n ih =>
      intro k K E ls H locs hk hC hok he hP hS hl
      have hM4 := cl_M4 hC
      have hM5 := cl_M5 hC
      refine lv_iload_n hx hb dd_D_begin_2 rfl (lv_at hl 1 rfl) ?_
      refine lv_sipush (v := nI 160) hx hb dd_D_begin_3 (by decide) ?_
      refine bq_gt (tgt := 58) hx hb (by omega) (by decide) dd_D_begin_6 rfl (fun h6 => ?_) (fun h6 => ?_)
      · exact absurd h6 (by omega)
      · refine lv_aload_n hx hb dd_D_begin_9 rfl (lv_at hl 0 rfl) ?_
        refine cw_callq (k := 0) (C := rn_D) (T := ft_D) (NF := 9) (As := []) (rest := []) ⟨hx, hb, hml, hown, hts⟩ (cc_D_choose l D ks ad ca K X E G N O B hC hks hok.1.1 hJ) (bg_cwV 0 hts tw_ml_D_137 tw_im_D_choose tw_se_D_choose tw_in_D tw_co_D_choose rfl rfl th_D_choose ⟨Nat.le_of_ble_eq_true rfl, Nat.le_of_ble_eq_true rfl⟩) hK hP (hks.1 0 (by decide)) (cw_C0 ad ca _ _ _ _) rfl rfl hl.1 rfl (Nat.le_of_ble_eq_true rfl) dd_D_begin_10 ⟨Nat.zero_le _, Nat.zero_le _⟩ (fun h10 => ?_) (fun k9 h10 => ?_)
        · have hch := bd_mp_n h10
          refine lv_astore_nN hx hb dd_D_begin_13 rfl hl (by decide) rfl (fun ls hl => ?_)
          have hl : lv_has ls 3 [(2, .null), (0, .ref (ad 0)), (1, .int (nI k))] := hl
          refine lv_aload_nN hx hb dd_D_begin_14 rfl (lv_at hl 0 rfl) ?_
          refine lv_ifnonnullN hx hb dd_D_begin_15 ?_
          refine lv_bipush (v := -8) hx hb dd_D_begin_18 (by decide) ?_
          have eM : (cs_bg N 161 M X F).2.1 = K := by rw [← he, cs_bg, hch]
          have eX : (cs_bg N 161 M X F).2.2.1 = X := by rw [← he, cs_bg, hch]
          have eF : (cs_bg N 161 M X F).2.2.2 = E := by rw [← he, cs_bg, hch]
          exact W.iret hx hb hr (fun tt htt hWW => ⟨⟨_, (), rfl, (by rw [← he, cs_bg, hch]), by rw [htt, eM, eX, eF]; exact hP, va_K.moved hWW.alike hK⟩, hS.F htt⟩) hS.2.2 dd_D_begin_20
        · obtain ⟨t, hch, rfl⟩ := bd_mp_s h10
          have hobt := hok.1.2 t hch
          refine lv_astore_n hx hb dd_D_begin_13 rfl hl (by decide) rfl (fun ls hl => ?_)
          have hl : lv_has ls 3 [(2, .ref (ad (20 + t))), (0, .ref (ad 0)), (1, .int (nI k))] := hl
          refine lv_aload_n hx hb dd_D_begin_14 rfl (lv_at hl 0 rfl) ?_
          refine lv_ifnonnull (tgt := 21) hx hb dd_D_begin_15 rfl ?_
          refine lv_aload_n hx hb dd_D_begin_21 rfl (lv_at hl 0 rfl) ?_
          refine cw_getk (k := 20 + t) (C := rn_B) (T := ft_B) (NF := 11) hx hb hts tw_fs_B hown hK hP (hks.2.2 _ hobt.1) (cw_CB _ ad ca _ _ _ _) rfl 1 (by decide) (hts _ tw_fl_D_141) rfl rfl (cl_h hC hobt.1) dd_D_begin_22 ?_
          refine cw_callwv (k := 8 + N 7 t) (C := rn_Q) (T := ft_Q) (NF := 10) (As := []) (rest := []) ⟨hx, hb, hml, hown, hts⟩ (cc_Q_dropFirst l D ks ad ca hJ K X E G N O B hC hks (N 7 t) (cl_hl hC hobt.1) hobt.2.1) (bg_cwV 0 hts tw_ml_D_144 tw_im_Q_dropFirst tw_se_Q_dropFirst tw_in_Q tw_co_Q_dropFirst rfl rfl th_Q_dropFirst ⟨Nat.le_of_ble_eq_true rfl, Nat.le_of_ble_eq_true rfl⟩) hK hP hS (hks.2.1 _ (cl_hl hC hobt.1)) (cw_CQ (Nat.lt_of_lt_of_le (cl_hl hC hobt.1) (cl_12 hC)) ad ca _ _ _ _) rfl rfl hl.1 rfl (Nat.le_of_ble_eq_true rfl) dd_D_begin_25 ⟨Nat.zero_le _, Nat.zero_le _⟩ (fun H locs hP hS => ?_)
          refine lv_aload_n hx hb dd_D_begin_28 rfl (lv_at hl 0 rfl) ?_
          refine cw_get1 (k := 20 + t) (C := rn_B) (T := ft_B) (NF := 11) (v := .int (bd_b (X (20 + t) 4))) hx hb hts tw_fs_B hown hK hP (hks.2.2 _ hobt.1) (cw_CB _ ad ca _ _ _ _) rfl 4 (by decide) (hts _ tw_fl_D_127) rfl rfl dd_D_begin_29 ?_
          refine bq_zne (tgt := 45) hx hb dd_D_begin_32 rfl (fun h32 => ?_) (fun h32 => ?_)
          · refine lv_aload_n hx hb dd_D_begin_45 rfl (lv_at hl 1 rfl) ?_
            refine lv_aload_n hx hb dd_D_begin_46 rfl (lv_at hl 0 rfl) ?_
            refine lv_bipush (v := nI 6) hx hb dd_D_begin_47 (by decide) ?_
            refine cw_callwv (k := 0) (C := rn_D) (T := ft_D) (NF := 9) (As := [.ref (ad (20 + t)), .int (nI 6)]) (rest := []) ⟨hx, hb, hml, hown, hts⟩ (cc_D_conclude l D ks ad ca hJ (cs_xM K E (N 7 t)) X (cs_xF E (N 7 t)) G N O B (cl_S_x hC (cl_hl hC hobt.1)) hks hobt.2.2.1 t 6 hobt.1 (by decide) hobt.2.2.2.1) (bg_cwV 2 hts tw_ml_D_150 tw_im_D_conclude tw_se_D_conclude tw_in_D tw_co_D_conclude rfl rfl th_D_conclude ⟨Nat.le_of_ble_eq_true rfl, Nat.le_of_ble_eq_true rfl⟩) hK hP hS (hks.1 0 (by decide)) (cw_C0 ad ca _ _ _ _) rfl rfl hl.1 rfl (Nat.le_of_ble_eq_true rfl) dd_D_begin_49 ⟨Nat.zero_le _, Nat.zero_le _⟩ (fun H locs hP hS => ?_)
            refine lv_iinc (k := 2) (v := nI (k + 1)) hx hb dd_D_begin_52 hl rfl (nI_1 _) (by decide) rfl (fun ls hl => ?_)
            have hl : lv_has ls 3 [(1, .int (nI (k + 1))), (2, .ref (ad (20 + t))), (0, .ref (ad 0))] := hl
            refine lv_goto (tgt := 2) hx hb dd_D_begin_55 rfl ?_
            exact ih (k + 1) (cs_cc (cs_xM K E (N 7 t)) (cs_xF E (N 7 t)) N t 6).1 (cs_cc (cs_xM K E (N 7 t)) (cs_xF E (N 7 t)) N t 6).2 ls H locs (by omega) (cl_S_c (cl_S_x hC (cl_hl hC hobt.1)) hobt.1 6) (hok.2 t hch h32) (by rw [← he, cs_bg, hch]; simp [h32]) hP hS (lv_sub hl [2, 0] rfl)
          · refine lv_aload_n hx hb dd_D_begin_35 rfl (lv_at hl 1 rfl) ?_
            refine lv_aload_n hx hb dd_D_begin_36 rfl (lv_at hl 0 rfl) ?_
            refine cw_callwv (k := 0) (C := rn_D) (T := ft_D) (NF := 9) (As := [.ref (ad (20 + t))]) (rest := []) ⟨hx, hb, hml, hown, hts⟩ (cc_D_start l D ks ad ca hJ (cs_xM K E (N 7 t)) X (cs_xF E (N 7 t)) G N O B (cl_S_x hC (cl_hl hC hobt.1)) hks t hobt.1 hobt.2.2.2.2) (bg_cwV 1 hts tw_ml_D_147 tw_im_D_start tw_se_D_start tw_in_D tw_co_D_start rfl rfl th_D_start ⟨Nat.le_of_ble_eq_true rfl, Nat.le_of_ble_eq_true rfl⟩) hK hP hS (hks.1 0 (by decide)) (cw_C0 ad ca _ _ _ _) rfl rfl hl.1 rfl (Nat.le_of_ble_eq_true rfl) dd_D_begin_37 ⟨Nat.zero_le _, Nat.zero_le _⟩ (fun H locs hP hS => ?_)
            refine lv_aload_n hx hb dd_D_begin_40 rfl (lv_at hl 0 rfl) ?_
            refine cw_get1 (k := 20 + t) (C := rn_B) (T := ft_B) (NF := 11) (v := .int (nI ((cs_sM (cs_xM K E (N 7 t)) (cs_xF E (N 7 t)) N t) (20 + t) 0))) hx hb hts tw_fs_B hown hK hP (hks.2.2 _ hobt.1) (cw_CB _ ad ca _ _ _ _) rfl 0 (by decide) (hts _ tw_fl_D_88) rfl rfl dd_D_begin_41 ?_
            rw [cl_bn (cl_S_s (cl_S_x hC (cl_hl hC hobt.1)) t) hobt.1]
            have eM : (cs_bg N 161 M X F).2.1 = cs_sM (cs_xM K E (N 7 t)) (cs_xF E (N 7 t)) N t := by rw [← he, cs_bg, hch]; simp [h32]
            have eX : (cs_bg N 161 M X F).2.2.1 = cs_sX X N t := by rw [← he, cs_bg, hch]; simp [h32]
            have eF : (cs_bg N 161 M X F).2.2.2 = cs_xF E (N 7 t) := by rw [← he, cs_bg, hch]; simp [h32]
            exact W.iret hx hb hr (fun tt htt hWW => ⟨⟨_, (), rfl, (by rw [← he, cs_bg, hch]; simp [h32]), by rw [htt, eM, eX, eF]; exact hP, va_K.moved hWW.alike hK⟩, hS.F htt⟩) hS.2.2 dd_D_begin_44
  refine lv_iconst (v := nI 0) hx hb dd_D_begin_0 (by decide) ?_
  refine lv_istore_n hx hb dd_D_begin_1 rfl hl (by decide) rfl (fun ls hl => ?_)
  have hl : lv_has ls 3 [(1, .int (nI 0)), (0, .ref (ad 0))] := hl
  exact lp 161 0 M F ls _ _ (by omega) hC hok0 rfl hP hS (lv_sub hl [1, 0] rfl)

set_option maxHeartbeats 4000000 in
set_option maxRecDepth 100000 in
theorem cc_D_advance (l : Launch) (D : va_G) (ks : List Nat) (ad : Nat → Nat) (ca : Nat → ClassId) (hJ : cw_J ks ad) (M : sp_N) (X : sp_B) (F : sp_O) (G : sp_Z) (N : sp_N) (O : sp_O) (B : sp_B) (hC : cl_S M X F N O B) (hks : cl_k ks N) (d : Int64) (hok0 : ¬ d < 0 → cs_oka N (cg_adv G d) 160 M F) : Met l my_D_advance (Cond.code my_D_advance cd_D_advance 7 (some .int) :: bg_tbl) ({ frames := 2, cells := 0, slots := 0, locals := 42 }) (va_Pc [.ref (ad 0), .long d] (cw_U D ks ad ca M X F G)) (va_Qi (fun r (_ : Unit) => r = (if d < 0 then (-9 : Int32) else nI (cs_ac N (cg_adv G d) 160 M F))) (fun _ uu => cw_U D ks ad ca ((if d < 0 then (M, F) else cs_av N (cg_adv G d) 160 M F).1) X ((if d < 0 then (M, F) else cs_av N (cg_adv G d) 160 M F).2) (cg_adv G d) uu) (cw_A ks ad)) 0 0 (cw_A ks ad) := by
  refine Met.ofW (cc := cd_D_advance) (maxL := 7) (ret := (some .int)) (by decide) rfl ?_
  intro p e s m args below meth c s₁ BB hml hv
  obtain ⟨rfl, hP, hK⟩ := hv
  have hx := BB.exec
  have hb := BB.bytes
  have hr := BB.returns
  have hts : ∀ w ∈ bg_tbl, w.before ([.ref (ad 0), .long d] : List Value).toArray s = true := fun w h => atoms_spec (ws := (Cond.code my_D_advance cd_D_advance 7 (some .int) :: bg_tbl)) BB.pre w (List.mem_cons_of_mem _ h)
  have hown : s.vm.findClass rn_D = some m.cls := findClass_of_methodNamed BB.named
  have hlocks := BB.notSynchronized
  have h12 := cl_12 hC
  have h160 := cl_160 hC
  have h3q := cl_3 hC
  have hM4 := cl_M4 hC
  have hM5 := cl_M5 hC
  have hS : va_S (cw_A ks ad) s.heap s.heap [] := va_S.rf
  have hl := lv_entry ([.ref (ad 0), .long d]) (n := 7) (Nat.le_of_ble_eq_true rfl)
  rw [lg_entry_eq]
  generalize (lg_sl ([.ref (ad 0), .long d]) ++ List.replicate (7 - (lg_sl ([.ref (ad 0), .long d])).length) Slot.unset).toArray = ls at hl ⊢
  have hl : lv_has ls 7 [(0, .ref (ad 0)), (1, .long d)] := hl
  refine lv_lload_n hx hb dd_D_advance_0 rfl (lv_at hl 1 rfl) ?_
  refine lv_lconst (v := 0) hx hb dd_D_advance_1 rfl ?_
  refine W.lcmp hx hb dd_D_advance_2 ?_
  refine bq_lge (tgt := 9) hx hb dd_D_advance_3 rfl (fun h3 => ?_) (fun h3 => ?_)
  · refine lv_ldc2 (v := 9223372036854775806) hx hb hown (hts _ tw_k2_D_157) dd_D_advance_9 ?_
    refine lv_aload_n hx hb dd_D_advance_12 rfl (lv_at hl 0 rfl) ?_
    refine cw_get1 (k := 0) (C := rn_D) (T := ft_D) (NF := 9) (v := .long (G 0 8)) hx hb hts tw_fs_D hown hK hP (hks.1 0 (by decide)) (cw_C0 ad ca _ _ _ _) rfl 8 (by decide) (hts _ tw_fl_D_159) rfl rfl dd_D_advance_13 ?_
    refine lv_lsub hx hb dd_D_advance_16 ?_
    refine lv_lstore_n hx hb dd_D_advance_17 rfl hl (by decide) rfl (fun ls hl => ?_)
    have hl : lv_has ls 7 [(3, .long (9223372036854775806 - (G 0 8))), (0, .ref (ad 0)), (1, .long d)] := hl
    refine lv_aload_n hx hb dd_D_advance_18 rfl (lv_at hl 1 rfl) ?_
    refine lv_dup hx hb dd_D_advance_19 rfl ?_
    refine cw_get1 (k := 0) (C := rn_D) (T := ft_D) (NF := 9) (v := .long (G 0 8)) hx hb hts tw_fs_D hown hK hP (hks.1 0 (by decide)) (cw_C0 ad ca _ _ _ _) rfl 8 (by decide) (hts _ tw_fl_D_159) rfl rfl dd_D_advance_20 ?_
    refine lv_lload_n hx hb dd_D_advance_23 rfl (lv_at hl 2 rfl) ?_
    refine lv_lload_n hx hb dd_D_advance_24 rfl (lv_at hl 0 rfl) ?_
    refine va_mmin_long hx hb (by rw [hml]; exact hl.1.symm) hown (hts _ tw_ml_min) (hts _ tw_st_min) (hts _ tw_in_J) (hts _ tw_co_min) (Nat.le_of_ble_eq_true rfl) (Nat.le_of_ble_eq_true rfl) (Nat.zero_le _) (Nat.zero_le _) dd_D_advance_25 ?_
    refine lv_ladd hx hb dd_D_advance_28 ?_
    refine cw_put1 (k := 0) (C := rn_D) (T := ft_D) (NF := 9) (v := .long ((G 0 8) + (if 9223372036854775806 - (G 0 8) < d then 9223372036854775806 - (G 0 8) else d))) (ty := fy_D 8) (M' := M) (X' := X) (F' := F) (G' := (sp_u G 0 8 ((G 0 8) + (if 9223372036854775806 - (G 0 8) < d then 9223372036854775806 - (G 0 8) else d)))) hx hb hts tw_fs_D fy_D fo_D fn_D hown hK hP (cw_D hJ ca M X F G) hS (hks.1 0 (by decide)) (cw_C0 ad ca _ _ _ _) rfl 8 (by decide) (hts _ tw_fl_D_159) rfl rfl (fo_D 8 (by decide)) rfl rfl (Nat.le_of_ble_eq_true rfl) (fun _ _ => rfl) (fun _ _ => rfl) (fun _ _ => rfl) (fun _ hq => sp_u_f _ _ _ hq) (by rw [sp_u_k]; exact (cw_C0 ad ca _ _ _ _)) dd_D_advance_29 (fun H locs hP hS => ?_)
    have eG : cg_adv G d = sp_u G 0 8 ((G 0 8) + (if 9223372036854775806 - (G 0 8) < d then 9223372036854775806 - (G 0 8) else d)) := by rw [cg_adv, if_neg (Int64.not_lt.mpr h3)]
    rw [← eG] at hP
    have hok0 := hok0 (Int64.not_lt.mpr h3)
    have hok0B := cs_oka_B hok0
    have lp : ∀ (n : Nat) (k : Nat) (o : Option Nat) (K : sp_N) (E : sp_O) (ls : Array Slot) (H : Heap) (locs : List Loc), (n + k = 160) → cl_S K X E N O B → cs_oka N (cg_adv G d) n K E → (o = cs_d K (cg_adv G d) (N 6 0)) → (cs_av N (cg_adv G d) n K E = cs_av N (cg_adv G d) 160 M F) → (cs_ac N (cg_adv G d) n K E + k = cs_ac N (cg_adv G d) 160 M F) → va_P D vw_cl (cw_W ks ad ca K X E (cg_adv G d)) H → va_S (cw_A ks ad) s.heap H locs → lv_has ls 7 [(0, .ref (ad 0)), (5, .int (nI k)), (6, va_rf (o.map (fun b => ad (20 + b))))] → W p l e (headSpec (Cond.code my_D_advance cd_D_advance 7 (some .int) :: bg_tbl) ({ frames := 2, cells := 0, slots := 0, locals := 42 })).room s m ([.ref (ad 0), .long d] : List Value).toArray below meth c H locs 0 0 (MQ below (va_Qi (fun r (_ : Unit) => r = (if d < 0 then (-9 : Int32) else nI (cs_ac N (cg_adv G d) 160 M F))) (fun _ uu => cw_U D ks ad ca ((if d < 0 then (M, F) else cs_av N (cg_adv G d) 160 M F).1) X ((if d < 0 then (M, F) else cs_av N (cg_adv G d) 160 M F).2) (cg_adv G d) uu) (cw_A ks ad)) ([.ref (ad 0), .long d] : List Value).toArray s 0 0 (cw_A ks ad)) (F0 m 41 ls []) := by
      intro n
      induction n with
      | zero =>
        intro k o K E ls H locs hk hC hok ho he1 he2 hP hS hl
        cases o with
        | none =>
          have hl : lv_has ls 7 [(0, .ref (ad 0)), (5, .int (nI k)), (6, .null)] := hl
          refine lv_aloadN hx hb dd_D_advance_41 (lv_at hl 2 rfl) ?_
          refine lv_ifnullN (tgt := 72) hx hb dd_D_advance_43 rfl ?_
          refine lv_iload hx hb dd_D_advance_72 (lv_at hl 1 rfl) ?_
          have eM : (if d < 0 then (M, F) else cs_av N (cg_adv G d) 160 M F).1 = K := by rw [if_neg (Int64.not_lt.mpr h3), ← he1, cs_av]
          have eF : (if d < 0 then (M, F) else cs_av N (cg_adv G d) 160 M F).2 = E := by rw [if_neg (Int64.not_lt.mpr h3), ← he1, cs_av]
          exact W.iret hx hb hr (fun tt htt hWW => ⟨⟨_, (), rfl, (by rw [if_neg (Int64.not_lt.mpr h3), ← he2, cs_ac]; simp), by rw [htt, eM, eF]; exact hP, va_K.moved hWW.alike hK⟩, hS.F htt⟩) hS.2.2 dd_D_advance_74
        | some t =>
          have hl : lv_has ls 7 [(0, .ref (ad 0)), (5, .int (nI k)), (6, .ref (ad (20 + t)))] := hl
          have htl : t < N 6 0 := cs_d_lt ho.symm
          refine lv_aload hx hb dd_D_advance_41 (lv_at hl 2 rfl) ?_
          refine lv_ifnull hx hb dd_D_advance_43 ?_
          refine lv_iload hx hb dd_D_advance_46 (lv_at hl 1 rfl) ?_
          refine lv_sipush (v := nI 160) hx hb dd_D_advance_48 (by decide) ?_
          refine bq_ge (tgt := 72) hx hb (by omega) (by decide) dd_D_advance_51 rfl (fun h51 => ?_) (fun h51 => ?_)
          · refine lv_iload hx hb dd_D_advance_72 (lv_at hl 1 rfl) ?_
            have eM : (if d < 0 then (M, F) else cs_av N (cg_adv G d) 160 M F).1 = K := by rw [if_neg (Int64.not_lt.mpr h3), ← he1, cs_av]
            have eF : (if d < 0 then (M, F) else cs_av N (cg_adv G d) 160 M F).2 = E := by rw [if_neg (Int64.not_lt.mpr h3), ← he1, cs_av]
            exact W.iret hx hb hr (fun tt htt hWW => ⟨⟨_, (), rfl, (by rw [if_neg (Int64.not_lt.mpr h3), ← he2, cs_ac]; simp), by rw [htt, eM, eF]; exact hP, va_K.moved hWW.alike hK⟩, hS.F htt⟩) hS.2.2 dd_D_advance_74
          · exact absurd h51 (by omega)
      | succ n ih =>
        intro k o K E ls H locs hk hC hok ho he1 he2 hP hS hl
        cases o with
        | none =>
          have hl : lv_has ls 7 [(0, .ref (ad 0)), (5, .int (nI k)), (6, .null)] := hl
          refine lv_aloadN hx hb dd_D_advance_41 (lv_at hl 2 rfl) ?_
          refine lv_ifnullN (tgt := 72) hx hb dd_D_advance_43 rfl ?_
          refine lv_iload hx hb dd_D_advance_72 (lv_at hl 1 rfl) ?_
          have eM : (if d < 0 then (M, F) else cs_av N (cg_adv G d) 160 M F).1 = K := by rw [if_neg (Int64.not_lt.mpr h3), ← he1, cs_av, ← ho]
          have eF : (if d < 0 then (M, F) else cs_av N (cg_adv G d) 160 M F).2 = E := by rw [if_neg (Int64.not_lt.mpr h3), ← he1, cs_av, ← ho]
          exact W.iret hx hb hr (fun tt htt hWW => ⟨⟨_, (), rfl, (by rw [if_neg (Int64.not_lt.mpr h3), ← he2, cs_ac, ← ho]; simp), by rw [htt, eM, eF]; exact hP, va_K.moved hWW.alike hK⟩, hS.F htt⟩) hS.2.2 dd_D_advance_74
        | some t =>
          have hl : lv_has ls 7 [(0, .ref (ad 0)), (5, .int (nI k)), (6, .ref (ad (20 + t)))] := hl
          have htl : t < N 6 0 := cs_d_lt ho.symm
          refine lv_aload hx hb dd_D_advance_41 (lv_at hl 2 rfl) ?_
          refine lv_ifnull hx hb dd_D_advance_43 ?_
          refine lv_iload hx hb dd_D_advance_46 (lv_at hl 1 rfl) ?_
          refine lv_sipush (v := nI 160) hx hb dd_D_advance_48 (by decide) ?_
          refine bq_ge (tgt := 72) hx hb (by omega) (by decide) dd_D_advance_51 rfl (fun h51 => ?_) (fun h51 => ?_)
          · exact absurd h51 (by omega)
          · refine lv_aload_n hx hb dd_D_advance_54 rfl (lv_at hl 0 rfl) ?_
            refine lv_aload hx hb dd_D_advance_55 (lv_at hl 2 rfl) ?_
            refine cw_callwv (k := 0) (C := rn_D) (T := ft_D) (NF := 9) (As := [.ref (ad (20 + t))]) (rest := []) ⟨hx, hb, hml, hown, hts⟩ (cc_D_line l D ks ad ca hJ K X E (cg_adv G d) N O B hC hks t htl) (bg_cwV 1 hts tw_ml_D_84 tw_im_D_line tw_se_D_line tw_in_D tw_co_D_line rfl rfl th_D_line ⟨Nat.le_of_ble_eq_true rfl, Nat.le_of_ble_eq_true rfl⟩) hK hP hS (hks.1 0 (by decide)) (cw_C0 ad ca _ _ _ _) rfl rfl hl.1 rfl (Nat.le_of_ble_eq_true rfl) dd_D_advance_57 ⟨Nat.zero_le _, Nat.zero_le _⟩ (fun H locs hP hS => ?_)
            refine lv_iinc (k := 1) (v := nI (k + 1)) hx hb dd_D_advance_60 hl rfl (nI_1 _) (by decide) rfl (fun ls hl => ?_)
            have hl : lv_has ls 7 [(5, .int (nI (k + 1))), (0, .ref (ad 0)), (6, .ref (ad (20 + t)))] := hl
            refine lv_aload_n hx hb dd_D_advance_63 rfl (lv_at hl 1 rfl) ?_
            refine cw_callq (k := 0) (C := rn_D) (T := ft_D) (NF := 9) (As := []) (rest := []) ⟨hx, hb, hml, hown, hts⟩ (cc_D_nextDue l D ks ad ca (cs_lM K N t) X (cs_aF E (N 7 t) t) (cg_adv G d) N O B (cl_S_l hC htl) hks (cs_oka_B (hok.2 t ho.symm))) (bg_cwV 0 hts tw_ml_D_165 tw_im_D_nextDue tw_se_D_nextDue tw_in_D tw_co_D_nextDue rfl rfl th_D_nextDue ⟨Nat.le_of_ble_eq_true rfl, Nat.le_of_ble_eq_true rfl⟩) hK hP (hks.1 0 (by decide)) (cw_C0 ad ca _ _ _ _) rfl rfl hl.1 rfl (Nat.le_of_ble_eq_true rfl) dd_D_advance_64 ⟨Nat.zero_le _, Nat.zero_le _⟩ (fun h10 => ?_) (fun k9 h10 => ?_)
            · have hd9 := bd_mp_n h10
              refine lv_astoreN hx hb dd_D_advance_67 hl (by decide) rfl (fun ls hl => ?_)
              have hl : lv_has ls 7 [(6, .null), (5, .int (nI (k + 1))), (0, .ref (ad 0))] := hl
              refine lv_goto (tgt := 41) hx hb dd_D_advance_69 rfl ?_
              exact ih (k + 1) (none) (cs_lM K N t) (cs_aF E (N 7 t) t) ls H locs (by omega) (cl_S_l hC htl) (hok.2 t ho.symm) hd9.symm (by rw [← he1, cs_av, ← ho]) (by rw [← he2, cs_ac, ← ho]; simp only []; omega) hP hS (lv_sub hl [2, 1, 0] rfl)
            · obtain ⟨t9, hd9, rfl⟩ := bd_mp_s h10
              refine lv_astore hx hb dd_D_advance_67 hl (by decide) rfl (fun ls hl => ?_)
              have hl : lv_has ls 7 [(6, .ref (ad (20 + t9))), (5, .int (nI (k + 1))), (0, .ref (ad 0))] := hl
              refine lv_goto (tgt := 41) hx hb dd_D_advance_69 rfl ?_
              exact ih (k + 1) (some t9) (cs_lM K N t) (cs_aF E (N 7 t) t) ls H locs (by omega) (cl_S_l hC htl) (hok.2 t ho.symm) hd9.symm (by rw [← he1, cs_av, ← ho]) (by rw [← he2, cs_ac, ← ho]; simp only []; omega) hP hS (lv_sub hl [2, 1, 0] rfl)
    refine lv_iconst (v := nI 0) hx hb dd_D_advance_32 (by decide) ?_
    refine lv_istore hx hb dd_D_advance_33 hl (by decide) rfl (fun ls hl => ?_)
    have hl : lv_has ls 7 [(5, .int (nI 0)), (3, .long (9223372036854775806 - (G 0 8))), (0, .ref (ad 0)), (1, .long d)] := hl
    refine lv_aload_n hx hb dd_D_advance_35 rfl (lv_at hl 2 rfl) ?_
    refine cw_callq (k := 0) (C := rn_D) (T := ft_D) (NF := 9) (As := []) (rest := []) ⟨hx, hb, hml, hown, hts⟩ (cc_D_nextDue l D ks ad ca M X F (cg_adv G d) N O B hC hks hok0B) (bg_cwV 0 hts tw_ml_D_165 tw_im_D_nextDue tw_se_D_nextDue tw_in_D tw_co_D_nextDue rfl rfl th_D_nextDue ⟨Nat.le_of_ble_eq_true rfl, Nat.le_of_ble_eq_true rfl⟩) hK hP (hks.1 0 (by decide)) (cw_C0 ad ca _ _ _ _) rfl rfl hl.1 rfl (Nat.le_of_ble_eq_true rfl) dd_D_advance_36 ⟨Nat.zero_le _, Nat.zero_le _⟩ (fun h10 => ?_) (fun k9 h10 => ?_)
    · have hd9 := bd_mp_n h10
      refine lv_astoreN hx hb dd_D_advance_39 hl (by decide) rfl (fun ls hl => ?_)
      have hl : lv_has ls 7 [(6, .null), (5, .int (nI 0)), (3, .long (9223372036854775806 - (G 0 8))), (0, .ref (ad 0)), (1, .long d)] := hl
      exact lp 160 0 (none) M F ls _ _ (by omega) hC hok0 hd9.symm rfl rfl hP hS (lv_sub hl [3, 1, 0] rfl)
    · obtain ⟨t9, hd9, rfl⟩ := bd_mp_s h10
      refine lv_astore hx hb dd_D_advance_39 hl (by decide) rfl (fun ls hl => ?_)
      have hl : lv_has ls 7 [(6, .ref (ad (20 + t9))), (5, .int (nI 0)), (3, .long (9223372036854775806 - (G 0 8))), (0, .ref (ad 0)), (1, .long d)] := hl
      exact lp 160 0 (some t9) M F ls _ _ (by omega) hC hok0 hd9.symm rfl rfl hP hS (lv_sub hl [3, 1, 0] rfl)
  · refine lv_bipush (v := -9) hx hb dd_D_advance_6 (by decide) ?_
    have eM : (if d < 0 then (M, F) else cs_av N (cg_adv G d) 160 M F).1 = M := by rw [if_pos h3]
    have eF : (if d < 0 then (M, F) else cs_av N (cg_adv G d) 160 M F).2 = F := by rw [if_pos h3]
    have eG : cg_adv G d = G := by rw [cg_adv, if_pos h3]
    exact W.iret hx hb hr (fun tt htt hWW => ⟨⟨_, (), rfl, (by rw [if_pos h3]), by rw [htt, eM, eF, eG]; exact hP, va_K.moved hWW.alike hK⟩, hS.F htt⟩) hS.2.2 dd_D_advance_8

