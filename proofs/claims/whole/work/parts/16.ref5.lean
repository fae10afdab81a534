/-! Part 16: the reference: queue, retarget, submit, after, whenDone, enter, leave, cancel, hold, finish. By wip/gen/gen_ref5.py. -/
set_option maxHeartbeats 4000000 in
set_option maxRecDepth 100000 in
theorem rc_queue (l : Launch) (D : va_G) (ra : Nat → Nat) (ca : Nat → ClassId) (hJ : rf_J ra) (N : sp_N) (O : sp_O) (Z : sp_Z) (B : sp_B) (hB : sp_Bd N O) (q wi : Int32) : Met l my_M_queue (Cond.code my_M_queue cd_M_queue 3 (some .int) :: bg_tbl) ({ frames := 1, cells := 0, slots := 0, locals := 21 }) (va_Pc [.ref (ra 0), .int q, .int wi] (rf_U D ra ca N O Z B)) (va_Qi (fun r (_ : Unit) => r = am_queue N (bd_at q (N 1 0)) (bd_wd wi)) (fun _ uu => rf_U D ra ca (nm_queue N (bd_at q (N 1 0)) (bd_wd wi)) O Z B uu) (rf_A ra)) 0 0 (rf_A ra) := by
  refine Met.ofW (cc := cd_M_queue) (maxL := 3) (ret := (some .int)) (by decide) rfl ?_
  intro p e s m args below meth c s₁ BB hml hv
  obtain ⟨rfl, hP, hK⟩ := hv
  have hx := BB.exec
  have hb := BB.bytes
  have hr := BB.returns
  have hts : ∀ w ∈ bg_tbl, w.before ([.ref (ra 0), .int q, .int wi] : List Value).toArray s = true := fun w h => atoms_spec (ws := (Cond.code my_M_queue cd_M_queue 3 (some .int) :: bg_tbl)) BB.pre w (List.mem_cons_of_mem _ h)
  have hown : s.vm.findClass rn_M = some m.cls := findClass_of_methodNamed BB.named
  have hlocks := BB.notSynchronized
  obtain ⟨hB_0, hB_1, hB_2, hB_3, hB_4, hB_5, hB_6, hB_7, hB_8, hB_9, hB_10, hB_11, hB_12, hB_17⟩ := id hB
  have hS : va_S (rf_A ra) s.heap s.heap [] := va_S.rf
  have hl := lv_entry ([.ref (ra 0), .int q, .int wi]) (n := 3) (Nat.le_of_ble_eq_true rfl)
  rw [lg_entry_eq]
  generalize (lg_sl ([.ref (ra 0), .int q, .int wi]) ++ List.replicate (3 - (lg_sl ([.ref (ra 0), .int q, .int wi])).length) Slot.unset).toArray = ls at hl ⊢
  have hl : lv_has ls 3 [(0, .ref (ra 0)), (1, .int q), (2, .int wi)] := hl
  refine lv_aload_n hx hb dd_M_queue_0 rfl (lv_at hl 0 rfl) ?_
  refine lv_iload_n hx hb dd_M_queue_1 rfl (lv_at hl 1 rfl) ?_
  refine rf_calli (As := [.int q]) (rest := []) (v := bd_b (bd_in q (N 1 0))) ⟨hx, hb, hml, hown, hts⟩ (rc_isQueue l D ra ca N O Z B hB q) (bg_cwV 1 hts tw_ml_M_102 tw_im_M_isQueue tw_se_M_isQueue tw_in_M tw_co_M_isQueue rfl rfl th_M_isQueue ⟨Nat.le_of_ble_eq_true rfl, Nat.le_of_ble_eq_true rfl⟩) hK hP rfl hl.1 rfl (by decide) dd_M_queue_2 ⟨Nat.zero_le _, Nat.zero_le _⟩ ?_
  refine bq_zne (tgt := 10) hx hb dd_M_queue_5 rfl (fun h5 => ?_) (fun h5 => ?_)
  · obtain ⟨a, ha9, rfl⟩ := bd_in_of h5 (by omega)
    refine lv_iload_n hx hb dd_M_queue_10 rfl (lv_at hl 2 rfl) ?_
    refine lv_iconst (v := nI 1) hx hb dd_M_queue_11 (by decide) ?_
    refine lv_icmp_lt (tgt := 21) hx hb dd_M_queue_12 rfl (fun h12 => ?_) (fun h12 => ?_)
    · refine lv_bipush (v := -9) hx hb dd_M_queue_21 (by decide) ?_
      have eN : nm_queue N (bd_at (nI a) (N 1 0)) (bd_wd wi) = N := by simp only [bd_at_in ha9 (by omega), bd_wd_1 h12]; simp [nm_queue]
      exact W.iret hx hb hr (fun tt htt hWW => ⟨⟨_, (), rfl, (by simp only [bd_at_in ha9 (by omega), bd_wd_1 h12]; simp [am_queue]), by rw [htt, eN]; exact hP, va_K.moved hWW.alike hK⟩, hS.F htt⟩) hS.2.2 dd_M_queue_23
    · refine lv_iload_n hx hb dd_M_queue_15 rfl (lv_at hl 2 rfl) ?_
      refine lv_bipush (v := nI 8) hx hb dd_M_queue_16 (by decide) ?_
      refine lv_icmp_le (tgt := 24) hx hb dd_M_queue_18 rfl (fun h18 => ?_) (fun h18 => ?_)
      · obtain ⟨b, hb1, hb8, rfl, hw9⟩ := bd_wd_3 h12 h18
        refine lv_aload_n hx hb dd_M_queue_24 rfl (lv_at hl 0 rfl) ?_
        refine va_get (D := D) (ci := 4) (v := .int (nI (N 1 0))) (C := rn_M) (T := ft_M) (N := 19) hx hb hts tw_fs_M hown hK hP 0 rfl rfl 1 (by decide) (hts _ tw_fl_M_7) (fun _ h9 => h9) rfl dd_M_queue_25 ?_
        refine lv_bipush (v := nI 12) hx hb dd_M_queue_28 (by decide) ?_
        refine bq_ne (tgt := 36) hx hb (Nat.lt_of_le_of_lt hB_1 (by decide)) (by decide) dd_M_queue_30 rfl (fun h30 => ?_) (fun h30 => ?_)
        · refine lv_aload_n hx hb dd_M_queue_36 rfl (lv_at hl 0 rfl) ?_
          refine va_get (D := D) (ci := 4) (v := .ref (ra 2)) (C := rn_M) (T := ft_M) (N := 19) hx hb hts tw_fs_M hown hK hP 0 rfl rfl 2 (by decide) (hts _ tw_fl_M_13) (fun _ h9 => h9) rfl dd_M_queue_37 ?_
          refine lv_aload_n hx hb dd_M_queue_40 rfl (lv_at hl 0 rfl) ?_
          refine va_get (D := D) (ci := 4) (v := .int (nI (N 1 0))) (C := rn_M) (T := ft_M) (N := 19) hx hb hts tw_fs_M hown hK hP 0 rfl rfl 1 (by decide) (hts _ tw_fl_M_7) (fun _ h9 => h9) rfl dd_M_queue_41 ?_
          refine lv_iload_n hx hb dd_M_queue_44 rfl (lv_at hl 1 rfl) ?_
          refine bq_iast hx hb hK hP (rf_D hJ ca N O Z B) hS 1 0 rfl rfl (by omega) (by decide) dd_M_queue_45 (fun H locs hP _ hS => ?_)
          have hP : va_P D vw_cl (rf_W ra ca (sp_u N 2 (N 1 0) a) O Z B) H := hP
          refine lv_aload_n hx hb dd_M_queue_46 rfl (lv_at hl 0 rfl) ?_
          refine va_get (D := D) (ci := 4) (v := .ref (ra 3)) (C := rn_M) (T := ft_M) (N := 19) hx hb hts tw_fs_M hown hK hP 0 rfl rfl 3 (by decide) (hts _ tw_fl_M_17) (fun _ h9 => h9) rfl dd_M_queue_47 ?_
          refine lv_aload_n hx hb dd_M_queue_50 rfl (lv_at hl 0 rfl) ?_
          refine va_get (D := D) (ci := 4) (v := .int (nI (N 1 0))) (C := rn_M) (T := ft_M) (N := 19) hx hb hts tw_fs_M hown hK hP 0 rfl rfl 1 (by decide) (hts _ tw_fl_M_7) (fun _ h9 => h9) rfl dd_M_queue_51 ?_
          refine lv_iload_n hx hb dd_M_queue_54 rfl (lv_at hl 2 rfl) ?_
          refine bq_iast hx hb hK hP (rf_D hJ ca (sp_u N 2 (N 1 0) a) O Z B) hS 2 1 rfl rfl (by omega) (by decide) dd_M_queue_55 (fun H locs hP _ hS => ?_)
          have hP : va_P D vw_cl (rf_W ra ca (sp_u (sp_u N 2 (N 1 0) a) 3 (N 1 0) b) O Z B) H := hP
          refine lv_aload_n hx hb dd_M_queue_56 rfl (lv_at hl 0 rfl) ?_
          refine lv_aload_n hx hb dd_M_queue_57 rfl (lv_at hl 0 rfl) ?_
          refine va_get (D := D) (ci := 4) (v := .int (nI (N 1 0))) (C := rn_M) (T := ft_M) (N := 19) hx hb hts tw_fs_M hown hK hP 0 rfl rfl 1 (by decide) (hts _ tw_fl_M_7) (fun _ h9 => h9) rfl dd_M_queue_58 ?_
          refine lv_iconst (v := nI 1) hx hb dd_M_queue_61 (by decide) ?_
          refine lv_iadd hx hb dd_M_queue_62 ?_
          rw [nI_add]
          refine va_put (D := D) (ci := 4) (v := .int (nI ((N 1 0) + 1))) (ty := .int) (C := rn_M) (T := ft_M) (N := 19) hx hb hts tw_fs_M fy_M fo_M fn_M hown hK hP (rf_D hJ ca (sp_u (sp_u N 2 (N 1 0) a) 3 (N 1 0) b) O Z B) hS 0 rfl rfl 1 (by decide) (hts _ tw_fl_M_7) (fun _ h9 => h9) rfl (by decide +kernel) rfl rfl (Nat.le_of_ble_eq_true rfl) dd_M_queue_63 (fun H locs hP _ hS => ?_)
          have hP : va_P D vw_cl (rf_W ra ca (sp_u (sp_u (sp_u N 2 (N 1 0) a) 3 (N 1 0) b) 1 0 ((N 1 0) + 1)) O Z B) H := hP
          refine lv_aload_n hx hb dd_M_queue_66 rfl (lv_at hl 0 rfl) ?_
          refine va_get (D := D) (ci := 4) (v := .int (nI ((N 1 0) + 1))) (C := rn_M) (T := ft_M) (N := 19) hx hb hts tw_fs_M hown hK hP 0 rfl rfl 1 (by decide) (hts _ tw_fl_M_7) (fun _ h9 => h9) rfl dd_M_queue_67 ?_
          refine lv_iconst (v := nI 1) hx hb dd_M_queue_70 (by decide) ?_
          refine lv_isub hx hb dd_M_queue_71 ?_
          rw [pk_sub (by omega)]
          have eN : nm_queue N (bd_at (nI a) (N 1 0)) (bd_wd (nI b)) = sp_u (sp_u (sp_u N 2 (N 1 0) a) 3 (N 1 0) b) 1 0 ((N 1 0) + 1) := by simp only [bd_at_in ha9 (by omega), hw9]; simp [nm_queue, h30]
          exact W.iret hx hb hr (fun tt htt hWW => ⟨⟨_, (), rfl, (by simp only [bd_at_in ha9 (by omega), hw9]; simp [am_queue, h30]), by rw [htt, eN]; exact hP, va_K.moved hWW.alike hK⟩, hS.F htt⟩) hS.2.2 dd_M_queue_72
        · refine lv_bipush (v := -4) hx hb dd_M_queue_33 (by decide) ?_
          have eN : nm_queue N (bd_at (nI a) (N 1 0)) (bd_wd (nI b)) = N := by simp only [bd_at_in ha9 (by omega), hw9]; simp [nm_queue, h30]
          exact W.iret hx hb hr (fun tt htt hWW => ⟨⟨_, (), rfl, (by simp only [bd_at_in ha9 (by omega), hw9]; simp [am_queue, h30]), by rw [htt, eN]; exact hP, va_K.moved hWW.alike hK⟩, hS.F htt⟩) hS.2.2 dd_M_queue_35
      · refine lv_bipush (v := -9) hx hb dd_M_queue_21 (by decide) ?_
        have eN : nm_queue N (bd_at (nI a) (N 1 0)) (bd_wd wi) = N := by simp only [bd_at_in ha9 (by omega), bd_wd_2 h18]; simp [nm_queue, h12]
        exact W.iret hx hb hr (fun tt htt hWW => ⟨⟨_, (), rfl, (by simp only [bd_at_in ha9 (by omega), bd_wd_2 h18]; simp [am_queue, h12]), by rw [htt, eN]; exact hP, va_K.moved hWW.alike hK⟩, hS.F htt⟩) hS.2.2 dd_M_queue_23
  · refine lv_iconst (v := -1) hx hb dd_M_queue_8 (by decide) ?_
    have eN : nm_queue N (bd_at q (N 1 0)) (bd_wd wi) = N := by simp only [bd_at_none h5]; simp [nm_queue]
    exact W.iret hx hb hr (fun tt htt hWW => ⟨⟨_, (), rfl, (by simp only [bd_at_none h5]; simp [am_queue]), by rw [htt, eN]; exact hP, va_K.moved hWW.alike hK⟩, hS.F htt⟩) hS.2.2 dd_M_queue_9

set_option maxHeartbeats 4000000 in
set_option maxRecDepth 100000 in
theorem rc_retarget (l : Launch) (D : va_G) (ra : Nat → Nat) (ca : Nat → ClassId) (hJ : rf_J ra) (N : sp_N) (O : sp_O) (Z : sp_Z) (B : sp_B) (hB : sp_Bd N O) (q ti : Int32) : Met l my_M_retarget (Cond.code my_M_retarget cd_M_retarget 3 (some .int) :: bg_tbl) ({ frames := 2, cells := 0, slots := 0, locals := 47 }) (va_Pc [.ref (ra 0), .int q, .int ti] (rf_U D ra ca N O Z B)) (va_Qi (fun r (_ : Unit) => r = am_retarget N (bd_at q (N 1 0)) (bd_at ti (N 1 0))) (fun _ uu => rf_U D ra ca (nm_retarget N (bd_at q (N 1 0)) (bd_at ti (N 1 0))) O Z B uu) (rf_A ra)) 0 0 (rf_A ra) := by
  refine Met.ofW (cc := cd_M_retarget) (maxL := 3) (ret := (some .int)) (by decide) rfl ?_
  intro p e s m args below meth c s₁ BB hml hv
  obtain ⟨rfl, hP, hK⟩ := hv
  have hx := BB.exec
  have hb := BB.bytes
  have hr := BB.returns
  have hts : ∀ w ∈ bg_tbl, w.before ([.ref (ra 0), .int q, .int ti] : List Value).toArray s = true := fun w h => atoms_spec (ws := (Cond.code my_M_retarget cd_M_retarget 3 (some .int) :: bg_tbl)) BB.pre w (List.mem_cons_of_mem _ h)
  have hown : s.vm.findClass rn_M = some m.cls := findClass_of_methodNamed BB.named
  have hlocks := BB.notSynchronized
  obtain ⟨hB_0, hB_1, hB_2, hB_3, hB_4, hB_5, hB_6, hB_7, hB_8, hB_9, hB_10, hB_11, hB_12, hB_17⟩ := id hB
  have hS : va_S (rf_A ra) s.heap s.heap [] := va_S.rf
  have hl := lv_entry ([.ref (ra 0), .int q, .int ti]) (n := 3) (Nat.le_of_ble_eq_true rfl)
  rw [lg_entry_eq]
  generalize (lg_sl ([.ref (ra 0), .int q, .int ti]) ++ List.replicate (3 - (lg_sl ([.ref (ra 0), .int q, .int ti])).length) Slot.unset).toArray = ls at hl ⊢
  have hl : lv_has ls 3 [(0, .ref (ra 0)), (1, .int q), (2, .int ti)] := hl
  refine lv_aload_n hx hb dd_M_retarget_0 rfl (lv_at hl 0 rfl) ?_
  refine lv_iload_n hx hb dd_M_retarget_1 rfl (lv_at hl 1 rfl) ?_
  refine rf_calli (As := [.int q]) (rest := []) (v := bd_b (bd_in q (N 1 0))) ⟨hx, hb, hml, hown, hts⟩ (rc_isQueue l D ra ca N O Z B hB q) (bg_cwV 1 hts tw_ml_M_102 tw_im_M_isQueue tw_se_M_isQueue tw_in_M tw_co_M_isQueue rfl rfl th_M_isQueue ⟨Nat.le_of_ble_eq_true rfl, Nat.le_of_ble_eq_true rfl⟩) hK hP rfl hl.1 rfl (by decide) dd_M_retarget_2 ⟨Nat.zero_le _, Nat.zero_le _⟩ ?_
  refine bq_zeq (tgt := 21) hx hb dd_M_retarget_5 rfl (fun h5 => ?_) (fun h5 => ?_)
  · refine lv_iconst (v := -1) hx hb dd_M_retarget_21 (by decide) ?_
    have eN : nm_retarget N (bd_at q (N 1 0)) (bd_at ti (N 1 0)) = N := by simp only [bd_at_none h5]; simp [nm_retarget]
    exact W.iret hx hb hr (fun tt htt hWW => ⟨⟨_, (), rfl, (by simp only [bd_at_none h5]; simp [am_retarget]), by rw [htt, eN]; exact hP, va_K.moved hWW.alike hK⟩, hS.F htt⟩) hS.2.2 dd_M_retarget_22
  · obtain ⟨a, ha9, rfl⟩ := bd_in_of h5 (by omega)
    refine lv_iload_n hx hb dd_M_retarget_8 rfl (lv_at hl 1 rfl) ?_
    refine lv_iconst (v := nI 3) hx hb dd_M_retarget_9 (by decide) ?_
    refine bq_lt (tgt := 21) hx hb (by omega) (by decide) dd_M_retarget_10 rfl (fun h10 => ?_) (fun h10 => ?_)
    · refine lv_iconst (v := -1) hx hb dd_M_retarget_21 (by decide) ?_
      have eN : nm_retarget N (bd_at (nI a) (N 1 0)) (bd_at ti (N 1 0)) = N := by simp only [bd_at_in ha9 (by omega)]; simp [nm_retarget, h10, Nat.not_le.mpr h10]
      exact W.iret hx hb hr (fun tt htt hWW => ⟨⟨_, (), rfl, (by simp only [bd_at_in ha9 (by omega)]; simp [am_retarget, h10, Nat.not_le.mpr h10]), by rw [htt, eN]; exact hP, va_K.moved hWW.alike hK⟩, hS.F htt⟩) hS.2.2 dd_M_retarget_22
    · refine lv_aload_n hx hb dd_M_retarget_13 rfl (lv_at hl 0 rfl) ?_
      refine lv_iload_n hx hb dd_M_retarget_14 rfl (lv_at hl 2 rfl) ?_
      refine rf_calli (As := [.int ti]) (rest := []) (v := bd_b (bd_in ti (N 1 0))) ⟨hx, hb, hml, hown, hts⟩ (rc_isQueue l D ra ca N O Z B hB ti) (bg_cwV 1 hts tw_ml_M_102 tw_im_M_isQueue tw_se_M_isQueue tw_in_M tw_co_M_isQueue rfl rfl th_M_isQueue ⟨Nat.le_of_ble_eq_true rfl, Nat.le_of_ble_eq_true rfl⟩) hK hP rfl hl.1 rfl (by decide) dd_M_retarget_15 ⟨Nat.zero_le _, Nat.zero_le _⟩ ?_
      refine bq_zne (tgt := 23) hx hb dd_M_retarget_18 rfl (fun h18 => ?_) (fun h18 => ?_)
      · obtain ⟨b, hb9, rfl⟩ := bd_in_of h18 (by omega)
        refine lv_aload_n hx hb dd_M_retarget_23 rfl (lv_at hl 0 rfl) ?_
        refine lv_iload_n hx hb dd_M_retarget_24 rfl (lv_at hl 2 rfl) ?_
        refine lv_iload_n hx hb dd_M_retarget_25 rfl (lv_at hl 1 rfl) ?_
        refine rf_calli (As := [.int (nI b), .int (nI a)]) (rest := []) (v := bd_b (sp_l N b a)) ⟨hx, hb, hml, hown, hts⟩ (rc_leads l D ra ca N O Z B hB b a (by omega) (by omega)) (bg_cwV 2 hts tw_ml_M_64 tw_im_M_leads tw_se_M_leads tw_in_M tw_co_M_leads rfl rfl th_M_leads ⟨Nat.le_of_ble_eq_true rfl, Nat.le_of_ble_eq_true rfl⟩) hK hP rfl hl.1 rfl (by decide) dd_M_retarget_26 ⟨Nat.zero_le _, Nat.zero_le _⟩ ?_
        refine bq_zeq (tgt := 35) hx hb dd_M_retarget_29 rfl (fun h29 => ?_) (fun h29 => ?_)
        · refine lv_aload_n hx hb dd_M_retarget_35 rfl (lv_at hl 0 rfl) ?_
          refine lv_iload_n hx hb dd_M_retarget_36 rfl (lv_at hl 1 rfl) ?_
          refine rf_calli (As := [.int (nI a)]) (rest := []) (v := nI (sp_p N a)) ⟨hx, hb, hml, hown, hts⟩ (rc_passing l D ra ca N O Z B hB a (by omega)) (bg_cwV 1 hts tw_ml_M_72 tw_im_M_passing tw_se_M_passing tw_in_M tw_co_M_passing rfl rfl th_M_passing ⟨Nat.le_of_ble_eq_true rfl, Nat.le_of_ble_eq_true rfl⟩) hK hP rfl hl.1 rfl (by decide) dd_M_retarget_37 ⟨Nat.zero_le _, Nat.zero_le _⟩ ?_
          refine bq_nle (tgt := 46) hx hb (Nat.lt_of_le_of_lt (Nat.le_trans (sp_c_le _ _) hB_6) (by decide)) dd_M_retarget_40 rfl (fun h40 => ?_) (fun h40 => ?_)
          · refine lv_aload_n hx hb dd_M_retarget_46 rfl (lv_at hl 0 rfl) ?_
            refine va_get (D := D) (ci := 4) (v := .ref (ra 2)) (C := rn_M) (T := ft_M) (N := 19) hx hb hts tw_fs_M hown hK hP 0 rfl rfl 2 (by decide) (hts _ tw_fl_M_13) (fun _ h9 => h9) rfl dd_M_retarget_47 ?_
            refine lv_iload_n hx hb dd_M_retarget_50 rfl (lv_at hl 1 rfl) ?_
            refine lv_iload_n hx hb dd_M_retarget_51 rfl (lv_at hl 2 rfl) ?_
            refine bq_iast hx hb hK hP (rf_D hJ ca N O Z B) hS 1 0 rfl rfl (by omega) (by decide) dd_M_retarget_52 (fun H locs hP _ hS => ?_)
            have hP : va_P D vw_cl (rf_W ra ca (sp_u N 2 a b) O Z B) H := hP
            refine lv_iconst (v := nI 0) hx hb dd_M_retarget_53 (by decide) ?_
            have eN : nm_retarget N (bd_at (nI a) (N 1 0)) (bd_at (nI b) (N 1 0)) = sp_u N 2 a b := by simp only [bd_at_in ha9 (by omega), bd_at_in hb9 (by omega)]; simp [nm_retarget, h10, Nat.not_lt.mpr h10, h29, h40]
            exact W.iret hx hb hr (fun tt htt hWW => ⟨⟨_, (), rfl, (by simp only [bd_at_in ha9 (by omega), bd_at_in hb9 (by omega)]; simp [am_retarget, h10, Nat.not_lt.mpr h10, h29, h40]), by rw [htt, eN]; exact hP, va_K.moved hWW.alike hK⟩, hS.F htt⟩) hS.2.2 dd_M_retarget_54
          · refine lv_bipush (v := -6) hx hb dd_M_retarget_43 (by decide) ?_
            have eN : nm_retarget N (bd_at (nI a) (N 1 0)) (bd_at (nI b) (N 1 0)) = N := by simp only [bd_at_in ha9 (by omega), bd_at_in hb9 (by omega)]; simp [nm_retarget, h10, Nat.not_lt.mpr h10, h29, h40, Nat.not_le.mpr h40]
            exact W.iret hx hb hr (fun tt htt hWW => ⟨⟨_, (), rfl, (by simp only [bd_at_in ha9 (by omega), bd_at_in hb9 (by omega)]; simp [am_retarget, h10, Nat.not_lt.mpr h10, h29, h40, Nat.not_le.mpr h40]), by rw [htt, eN]; exact hP, va_K.moved hWW.alike hK⟩, hS.F htt⟩) hS.2.2 dd_M_retarget_45
        · refine lv_bipush (v := -5) hx hb dd_M_retarget_32 (by decide) ?_
          have eN : nm_retarget N (bd_at (nI a) (N 1 0)) (bd_at (nI b) (N 1 0)) = N := by simp only [bd_at_in ha9 (by omega), bd_at_in hb9 (by omega)]; simp [nm_retarget, h10, Nat.not_lt.mpr h10, h29]
          exact W.iret hx hb hr (fun tt htt hWW => ⟨⟨_, (), rfl, (by simp only [bd_at_in ha9 (by omega), bd_at_in hb9 (by omega)]; simp [am_retarget, h10, Nat.not_lt.mpr h10, h29]), by rw [htt, eN]; exact hP, va_K.moved hWW.alike hK⟩, hS.F htt⟩) hS.2.2 dd_M_retarget_34
      · refine lv_iconst (v := -1) hx hb dd_M_retarget_21 (by decide) ?_
        have eN : nm_retarget N (bd_at (nI a) (N 1 0)) (bd_at ti (N 1 0)) = N := by simp only [bd_at_in ha9 (by omega), bd_at_none h18]; simp [nm_retarget, h10, Nat.not_lt.mpr h10]
        exact W.iret hx hb hr (fun tt htt hWW => ⟨⟨_, (), rfl, (by simp only [bd_at_in ha9 (by omega), bd_at_none h18]; simp [am_retarget, h10, Nat.not_lt.mpr h10]), by rw [htt, eN]; exact hP, va_K.moved hWW.alike hK⟩, hS.F htt⟩) hS.2.2 dd_M_retarget_22

set_option maxHeartbeats 4000000 in
set_option maxRecDepth 100000 in
theorem rc_submit (l : Launch) (D : va_G) (ra : Nat → Nat) (ca : Nat → ClassId) (hJ : rf_J ra) (N : sp_N) (O : sp_O) (Z : sp_Z) (B : sp_B) (hB : sp_Bd N O) (q : Int32) (bar : Bool) (gi : Int32) : Met l my_M_submit (Cond.code my_M_submit cd_M_submit 5 (some .int) :: bg_tbl) ({ frames := 1, cells := 0, slots := 0, locals := 23 }) (va_Pc [.ref (ra 0), .int q, .int (bd_b bar), .int gi] (rf_U D ra ca N O Z B)) (va_Qi (fun r (_ : Unit) => r = am_submit N (bd_at q (N 1 0)) (bd_gr gi)) (fun _ uu => rf_U D ra ca (nm_submit N (bd_at q (N 1 0)) (bd_gr gi)) (om_submit N O (bd_at q (N 1 0)) (bd_gr gi)) Z (bm_submit N B (bd_at q (N 1 0)) bar (bd_gr gi)) uu) (rf_A ra)) 0 0 (rf_A ra) := by
  refine Met.ofW (cc := cd_M_submit) (maxL := 5) (ret := (some .int)) (by decide) rfl ?_
  intro p e s m args below meth c s₁ BB hml hv
  obtain ⟨rfl, hP, hK⟩ := hv
  have hx := BB.exec
  have hb := BB.bytes
  have hr := BB.returns
  have hts : ∀ w ∈ bg_tbl, w.before ([.ref (ra 0), .int q, .int (bd_b bar), .int gi] : List Value).toArray s = true := fun w h => atoms_spec (ws := (Cond.code my_M_submit cd_M_submit 5 (some .int) :: bg_tbl)) BB.pre w (List.mem_cons_of_mem _ h)
  have hown : s.vm.findClass rn_M = some m.cls := findClass_of_methodNamed BB.named
  have hlocks := BB.notSynchronized
  obtain ⟨hB_0, hB_1, hB_2, hB_3, hB_4, hB_5, hB_6, hB_7, hB_8, hB_9, hB_10, hB_11, hB_12, hB_17⟩ := id hB
  have hS : va_S (rf_A ra) s.heap s.heap [] := va_S.rf
  have hl := lv_entry ([.ref (ra 0), .int q, .int (bd_b bar), .int gi]) (n := 5) (Nat.le_of_ble_eq_true rfl)
  rw [lg_entry_eq]
  generalize (lg_sl ([.ref (ra 0), .int q, .int (bd_b bar), .int gi]) ++ List.replicate (5 - (lg_sl ([.ref (ra 0), .int q, .int (bd_b bar), .int gi])).length) Slot.unset).toArray = ls at hl ⊢
  have hl : lv_has ls 5 [(0, .ref (ra 0)), (1, .int q), (2, .int (bd_b bar)), (3, .int gi)] := hl
  refine lv_aload_n hx hb dd_M_submit_0 rfl (lv_at hl 0 rfl) ?_
  refine lv_iload_n hx hb dd_M_submit_1 rfl (lv_at hl 1 rfl) ?_
  refine rf_calli (As := [.int q]) (rest := []) (v := bd_b (bd_in q (N 1 0))) ⟨hx, hb, hml, hown, hts⟩ (rc_isQueue l D ra ca N O Z B hB q) (bg_cwV 1 hts tw_ml_M_102 tw_im_M_isQueue tw_se_M_isQueue tw_in_M tw_co_M_isQueue rfl rfl th_M_isQueue ⟨Nat.le_of_ble_eq_true rfl, Nat.le_of_ble_eq_true rfl⟩) hK hP rfl hl.1 rfl (by decide) dd_M_submit_2 ⟨Nat.zero_le _, Nat.zero_le _⟩ ?_
  refine bq_zne (tgt := 10) hx hb dd_M_submit_5 rfl (fun h5 => ?_) (fun h5 => ?_)
  · obtain ⟨a, ha9, rfl⟩ := bd_in_of h5 (by omega)
    refine lv_iload_n hx hb dd_M_submit_10 rfl (lv_at hl 3 rfl) ?_
    refine lv_iconst (v := -1) hx hb dd_M_submit_11 (by decide) ?_
    refine lv_icmp_lt (tgt := 20) hx hb dd_M_submit_12 rfl (fun h12 => ?_) (fun h12 => ?_)
    · refine lv_bipush (v := -2) hx hb dd_M_submit_20 (by decide) ?_
      have eN : nm_submit N (bd_at (nI a) (N 1 0)) (bd_gr gi) = N := by simp only [bd_at_in ha9 (by omega), bd_gr_1 h12]; simp [nm_submit]
      have eO : om_submit N O (bd_at (nI a) (N 1 0)) (bd_gr gi) = O := by simp only [bd_at_in ha9 (by omega), bd_gr_1 h12]; simp [om_submit]
      have eB : bm_submit N B (bd_at (nI a) (N 1 0)) bar (bd_gr gi) = B := by simp only [bd_at_in ha9 (by omega), bd_gr_1 h12]; simp [bm_submit]
      exact W.iret hx hb hr (fun tt htt hWW => ⟨⟨_, (), rfl, (by simp only [bd_at_in ha9 (by omega), bd_gr_1 h12]; simp [am_submit]), by rw [htt, eN, eO, eB]; exact hP, va_K.moved hWW.alike hK⟩, hS.F htt⟩) hS.2.2 dd_M_submit_22
    · refine lv_iload_n hx hb dd_M_submit_15 rfl (lv_at hl 3 rfl) ?_
      refine lv_iconst (v := nI 3) hx hb dd_M_submit_16 (by decide) ?_
      refine lv_icmp_le (tgt := 23) hx hb dd_M_submit_17 rfl (fun h17 => ?_) (fun h17 => ?_)
      · obtain ⟨o, ho4, rfl, hg9w⟩ := bd_gr_3 h12 h17
        refine lv_aload_n hx hb dd_M_submit_23 rfl (lv_at hl 0 rfl) ?_
        refine va_get (D := D) (ci := 4) (v := .int (nI (N 6 0))) (C := rn_M) (T := ft_M) (N := 19) hx hb hts tw_fs_M hown hK hP 0 rfl rfl 6 (by decide) (hts _ tw_fl_M_61) (fun _ h9 => h9) rfl dd_M_submit_24 ?_
        refine lv_sipush (v := nI 160) hx hb dd_M_submit_27 (by decide) ?_
        refine bq_ne (tgt := 36) hx hb (Nat.lt_of_le_of_lt hB_6 (by decide)) (by decide) dd_M_submit_30 rfl (fun h30 => ?_) (fun h30 => ?_)
        · refine lv_aload_n hx hb dd_M_submit_36 rfl (lv_at hl 0 rfl) ?_
          refine lv_iload_n hx hb dd_M_submit_37 rfl (lv_at hl 1 rfl) ?_
          refine lv_iload_n hx hb dd_M_submit_38 rfl (lv_at hl 2 rfl) ?_
          refine rf_callwi (As := [.int (nI a), .int (bd_b bar)]) (rest := []) (v := nI (N 6 0)) ⟨hx, hb, hml, hown, hts⟩ (rc_accept l D ra ca hJ N O Z B (by omega) a bar (by omega)) (bg_cwV 2 hts tw_ml_M_105 tw_im_M_accept tw_se_M_accept tw_in_M tw_co_M_accept rfl rfl th_M_accept ⟨Nat.le_of_ble_eq_true rfl, Nat.le_of_ble_eq_true rfl⟩) hK hP hS rfl hl.1 rfl (by decide) dd_M_submit_39 ⟨Nat.zero_le _, Nat.zero_le _⟩ (fun H locs hP hS => ?_)
          refine lv_istore hx hb dd_M_submit_42 hl (by decide) rfl (fun ls hl => ?_)
          have hl : lv_has ls 5 [(4, .int (nI (N 6 0))), (0, .ref (ra 0)), (1, .int (nI a)), (2, .int (bd_b bar)), (3, .int (bd_o o))] := hl
          refine lv_aload_n hx hb dd_M_submit_44 rfl (lv_at hl 1 rfl) ?_
          refine va_get (D := D) (ci := 4) (v := .ref (ra 10)) (C := rn_M) (T := ft_M) (N := 19) hx hb hts tw_fs_M hown hK hP 0 rfl rfl 10 (by decide) (hts _ tw_fl_M_35) (fun _ h9 => h9) rfl dd_M_submit_45 ?_
          refine lv_iload hx hb dd_M_submit_48 (lv_at hl 0 rfl) ?_
          refine lv_iload_n hx hb dd_M_submit_50 rfl (lv_at hl 4 rfl) ?_
          refine bq_oast (v := o) hx hb hK hP (rf_D hJ ca (sp_AN N a) (sp_AO N O) Z (sp_AB N B a bar)) hS 8 7 rfl rfl (by omega) (by decide) dd_M_submit_51 (fun H locs hP _ hS => ?_)
          have hP : va_P D vw_cl (rf_W ra ca (sp_AN N a) (sp_u (sp_AO N O) 10 (N 6 0) o) Z (sp_AB N B a bar)) H := hP
          refine lv_aload_n hx hb dd_M_submit_52 rfl (lv_at hl 1 rfl) ?_
          refine lv_iload hx hb dd_M_submit_53 (lv_at hl 0 rfl) ?_
          refine rf_callwv (As := [.int (nI (N 6 0))]) (rest := []) ⟨hx, hb, hml, hown, hts⟩ (rc_line l D ra ca hJ (sp_AN N a) (sp_u (sp_AO N O) 10 (N 6 0) o) Z (sp_AB N B a bar) (N 6 0) (by omega)) (bg_cwV 1 hts tw_ml_M_95 tw_im_M_line tw_se_M_line tw_in_M tw_co_M_line rfl rfl th_M_line ⟨Nat.le_of_ble_eq_true rfl, Nat.le_of_ble_eq_true rfl⟩) hK hP hS rfl hl.1 rfl (by decide) dd_M_submit_55 ⟨Nat.zero_le _, Nat.zero_le _⟩ (fun H locs hP hS => ?_)
          refine lv_iload hx hb dd_M_submit_58 (lv_at hl 0 rfl) ?_
          have eN : nm_submit N (bd_at (nI a) (N 1 0)) (bd_gr (bd_o o)) = sp_L (sp_AN N a) (N 6 0) := by simp only [bd_at_in ha9 (by omega), hg9w]; simp [nm_submit, h30]
          have eO : om_submit N O (bd_at (nI a) (N 1 0)) (bd_gr (bd_o o)) = sp_u (sp_AO N O) 10 (N 6 0) o := by simp only [bd_at_in ha9 (by omega), hg9w]; simp [om_submit, h30]
          have eB : bm_submit N B (bd_at (nI a) (N 1 0)) bar (bd_gr (bd_o o)) = sp_AB N B a bar := by simp only [bd_at_in ha9 (by omega), hg9w]; simp [bm_submit, h30]
          exact W.iret hx hb hr (fun tt htt hWW => ⟨⟨_, (), rfl, (by simp only [bd_at_in ha9 (by omega), hg9w]; simp [am_submit, h30]), by rw [htt, eN, eO, eB]; exact hP, va_K.moved hWW.alike hK⟩, hS.F htt⟩) hS.2.2 dd_M_submit_60
        · refine lv_bipush (v := -4) hx hb dd_M_submit_33 (by decide) ?_
          have eN : nm_submit N (bd_at (nI a) (N 1 0)) (bd_gr (bd_o o)) = N := by simp only [bd_at_in ha9 (by omega), hg9w]; simp [nm_submit, h30]
          have eO : om_submit N O (bd_at (nI a) (N 1 0)) (bd_gr (bd_o o)) = O := by simp only [bd_at_in ha9 (by omega), hg9w]; simp [om_submit, h30]
          have eB : bm_submit N B (bd_at (nI a) (N 1 0)) bar (bd_gr (bd_o o)) = B := by simp only [bd_at_in ha9 (by omega), hg9w]; simp [bm_submit, h30]
          exact W.iret hx hb hr (fun tt htt hWW => ⟨⟨_, (), rfl, (by simp only [bd_at_in ha9 (by omega), hg9w]; simp [am_submit, h30]), by rw [htt, eN, eO, eB]; exact hP, va_K.moved hWW.alike hK⟩, hS.F htt⟩) hS.2.2 dd_M_submit_35
      · refine lv_bipush (v := -2) hx hb dd_M_submit_20 (by decide) ?_
        have eN : nm_submit N (bd_at (nI a) (N 1 0)) (bd_gr gi) = N := by simp only [bd_at_in ha9 (by omega), bd_gr_2 h17]; simp [nm_submit, h12]
        have eO : om_submit N O (bd_at (nI a) (N 1 0)) (bd_gr gi) = O := by simp only [bd_at_in ha9 (by omega), bd_gr_2 h17]; simp [om_submit, h12]
        have eB : bm_submit N B (bd_at (nI a) (N 1 0)) bar (bd_gr gi) = B := by simp only [bd_at_in ha9 (by omega), bd_gr_2 h17]; simp [bm_submit, h12]
        exact W.iret hx hb hr (fun tt htt hWW => ⟨⟨_, (), rfl, (by simp only [bd_at_in ha9 (by omega), bd_gr_2 h17]; simp [am_submit, h12]), by rw [htt, eN, eO, eB]; exact hP, va_K.moved hWW.alike hK⟩, hS.F htt⟩) hS.2.2 dd_M_submit_22
  · refine lv_iconst (v := -1) hx hb dd_M_submit_8 (by decide) ?_
    have eN : nm_submit N (bd_at q (N 1 0)) (bd_gr gi) = N := by simp only [bd_at_none h5]; simp [nm_submit]
    have eO : om_submit N O (bd_at q (N 1 0)) (bd_gr gi) = O := by simp only [bd_at_none h5]; simp [om_submit]
    have eB : bm_submit N B (bd_at q (N 1 0)) bar (bd_gr gi) = B := by simp only [bd_at_none h5]; simp [bm_submit]
    exact W.iret hx hb hr (fun tt htt hWW => ⟨⟨_, (), rfl, (by simp only [bd_at_none h5]; simp [am_submit]), by rw [htt, eN, eO, eB]; exact hP, va_K.moved hWW.alike hK⟩, hS.F htt⟩) hS.2.2 dd_M_submit_9

set_option maxHeartbeats 4000000 in
set_option maxRecDepth 100000 in
theorem rc_after (l : Launch) (D : va_G) (ra : Nat → Nat) (ca : Nat → ClassId) (hJ : rf_J ra) (N : sp_N) (O : sp_O) (Z : sp_Z) (B : sp_B) (hB : sp_Bd N O) (q : Int32) (d : Int64) : Met l my_M_after (Cond.code my_M_after cd_M_after 5 (some .int) :: bg_tbl) ({ frames := 1, cells := 0, slots := 0, locals := 23 }) (va_Pc [.ref (ra 0), .int q, .long d] (rf_U D ra ca N O Z B)) (va_Qi (fun r (_ : Unit) => r = am_new N (bd_at q (N 1 0))) (fun _ uu => rf_U D ra ca (nm_after N (bd_at q (N 1 0)) d) (om_after N O (bd_at q (N 1 0))) (zm_after N Z (bd_at q (N 1 0)) d) (bm_after N B (bd_at q (N 1 0))) uu) (rf_A ra)) 0 0 (rf_A ra) := by
  refine Met.ofW (cc := cd_M_after) (maxL := 5) (ret := (some .int)) (by decide) rfl ?_
  intro p e s m args below meth c s₁ BB hml hv
  obtain ⟨rfl, hP, hK⟩ := hv
  have hx := BB.exec
  have hb := BB.bytes
  have hr := BB.returns
  have hts : ∀ w ∈ bg_tbl, w.before ([.ref (ra 0), .int q, .long d] : List Value).toArray s = true := fun w h => atoms_spec (ws := (Cond.code my_M_after cd_M_after 5 (some .int) :: bg_tbl)) BB.pre w (List.mem_cons_of_mem _ h)
  have hown : s.vm.findClass rn_M = some m.cls := findClass_of_methodNamed BB.named
  have hlocks := BB.notSynchronized
  obtain ⟨hB_0, hB_1, hB_2, hB_3, hB_4, hB_5, hB_6, hB_7, hB_8, hB_9, hB_10, hB_11, hB_12, hB_17⟩ := id hB
  have hS : va_S (rf_A ra) s.heap s.heap [] := va_S.rf
  have hl := lv_entry ([.ref (ra 0), .int q, .long d]) (n := 5) (Nat.le_of_ble_eq_true rfl)
  rw [lg_entry_eq]
  generalize (lg_sl ([.ref (ra 0), .int q, .long d]) ++ List.replicate (5 - (lg_sl ([.ref (ra 0), .int q, .long d])).length) Slot.unset).toArray = ls at hl ⊢
  have hl : lv_has ls 5 [(0, .ref (ra 0)), (1, .int q), (2, .long d)] := hl
  refine lv_aload_n hx hb dd_M_after_0 rfl (lv_at hl 0 rfl) ?_
  refine lv_iload_n hx hb dd_M_after_1 rfl (lv_at hl 1 rfl) ?_
  refine rf_calli (As := [.int q]) (rest := []) (v := bd_b (bd_in q (N 1 0))) ⟨hx, hb, hml, hown, hts⟩ (rc_isQueue l D ra ca N O Z B hB q) (bg_cwV 1 hts tw_ml_M_102 tw_im_M_isQueue tw_se_M_isQueue tw_in_M tw_co_M_isQueue rfl rfl th_M_isQueue ⟨Nat.le_of_ble_eq_true rfl, Nat.le_of_ble_eq_true rfl⟩) hK hP rfl hl.1 rfl (by decide) dd_M_after_2 ⟨Nat.zero_le _, Nat.zero_le _⟩ ?_
  refine bq_zne (tgt := 10) hx hb dd_M_after_5 rfl (fun h5 => ?_) (fun h5 => ?_)
  · obtain ⟨a, ha9, rfl⟩ := bd_in_of h5 (by omega)
    refine lv_aload_n hx hb dd_M_after_10 rfl (lv_at hl 0 rfl) ?_
    refine va_get (D := D) (ci := 4) (v := .int (nI (N 6 0))) (C := rn_M) (T := ft_M) (N := 19) hx hb hts tw_fs_M hown hK hP 0 rfl rfl 6 (by decide) (hts _ tw_fl_M_61) (fun _ h9 => h9) rfl dd_M_after_11 ?_
    refine lv_sipush (v := nI 160) hx hb dd_M_after_14 (by decide) ?_
    refine bq_ne (tgt := 23) hx hb (Nat.lt_of_le_of_lt hB_6 (by decide)) (by decide) dd_M_after_17 rfl (fun h17 => ?_) (fun h17 => ?_)
    · refine lv_aload_n hx hb dd_M_after_23 rfl (lv_at hl 0 rfl) ?_
      refine lv_iload_n hx hb dd_M_after_24 rfl (lv_at hl 1 rfl) ?_
      refine lv_iconst (v := bd_b false) hx hb dd_M_after_25 (by decide) ?_
      refine rf_callwi (As := [.int (nI a), .int (bd_b false)]) (rest := []) (v := nI (N 6 0)) ⟨hx, hb, hml, hown, hts⟩ (rc_accept l D ra ca hJ N O Z B (by omega) a false (by omega)) (bg_cwV 2 hts tw_ml_M_105 tw_im_M_accept tw_se_M_accept tw_in_M tw_co_M_accept rfl rfl th_M_accept ⟨Nat.le_of_ble_eq_true rfl, Nat.le_of_ble_eq_true rfl⟩) hK hP hS rfl hl.1 rfl (by decide) dd_M_after_26 ⟨Nat.zero_le _, Nat.zero_le _⟩ (fun H locs hP hS => ?_)
      refine lv_istore hx hb dd_M_after_29 hl (by decide) rfl (fun ls hl => ?_)
      have hl : lv_has ls 5 [(4, .int (nI (N 6 0))), (0, .ref (ra 0)), (1, .int (nI a)), (2, .long d)] := hl
      refine lv_lload_n hx hb dd_M_after_31 rfl (lv_at hl 3 rfl) ?_
      refine lv_lconst (v := 0) hx hb dd_M_after_32 rfl ?_
      refine W.lcmp hx hb dd_M_after_33 ?_
      refine bq_lgt (tgt := 46) hx hb dd_M_after_34 rfl (fun h34 => ?_) (fun h34 => ?_)
      · refine lv_aload_n hx hb dd_M_after_46 rfl (lv_at hl 1 rfl) ?_
        refine va_get (D := D) (ci := 4) (v := .ref (ra 13)) (C := rn_M) (T := ft_M) (N := 19) hx hb hts tw_fs_M hown hK hP 0 rfl rfl 13 (by decide) (hts _ tw_fl_M_44) (fun _ h9 => h9) rfl dd_M_after_47 ?_
        refine lv_iload hx hb dd_M_after_50 (lv_at hl 0 rfl) ?_
        refine lv_lload_n hx hb dd_M_after_52 rfl (lv_at hl 3 rfl) ?_
        refine lv_ldc2 (v := 9223372036854775807) hx hb hown (hts _ tw_k2_M_109) dd_M_after_53 ?_
        refine lv_aload_n hx hb dd_M_after_56 rfl (lv_at hl 1 rfl) ?_
        refine va_get (D := D) (ci := 4) (v := .long (Z 18 0)) (C := rn_M) (T := ft_M) (N := 19) hx hb hts tw_fs_M hown hK hP 0 rfl rfl 18 (by decide) (hts _ tw_fl_M_111) (fun _ h9 => h9) rfl dd_M_after_57 ?_
        refine lv_lsub hx hb dd_M_after_60 ?_
        refine W.lcmp hx hb dd_M_after_61 ?_
        refine bq_llt (tgt := 71) hx hb dd_M_after_62 rfl (fun h62 => ?_) (fun h62 => ?_)
        · refine lv_aload_n hx hb dd_M_after_71 rfl (lv_at hl 1 rfl) ?_
          refine va_get (D := D) (ci := 4) (v := .long (Z 18 0)) (C := rn_M) (T := ft_M) (N := 19) hx hb hts tw_fs_M hown hK hP 0 rfl rfl 18 (by decide) (hts _ tw_fl_M_111) (fun _ h9 => h9) rfl dd_M_after_72 ?_
          refine lv_lload_n hx hb dd_M_after_75 rfl (lv_at hl 3 rfl) ?_
          refine lv_ladd hx hb dd_M_after_76 ?_
          refine bq_last hx hb hK hP (rf_D hJ ca (sp_AN N a) (sp_AO N O) Z (sp_AB N B a false)) hS 11 10 rfl rfl (by omega) (by decide) dd_M_after_77 (fun H locs hP _ hS => ?_)
          have hP : va_P D vw_cl (rf_W ra ca (sp_AN N a) (sp_AO N O) (sp_u Z 13 (N 6 0) ((Z 18 0) + d)) (sp_AB N B a false)) H := hP
          refine lv_iload hx hb dd_M_after_78 (lv_at hl 0 rfl) ?_
          have eN : nm_after N (bd_at (nI a) (N 1 0)) d = sp_AN N a := by simp only [bd_at_in ha9 (by omega)]; simp [nm_after, zm_dl, h17, Int64.not_le.mpr h34, h62]
          have eO : om_after N O (bd_at (nI a) (N 1 0)) = sp_AO N O := by simp only [bd_at_in ha9 (by omega)]; simp [om_after, zm_dl, h17, Int64.not_le.mpr h34, h62]
          have eZ : zm_after N Z (bd_at (nI a) (N 1 0)) d = sp_u Z 13 (N 6 0) ((Z 18 0) + d) := by simp only [bd_at_in ha9 (by omega)]; simp [zm_after, zm_dl, h17, Int64.not_le.mpr h34, h62]
          have eB : bm_after N B (bd_at (nI a) (N 1 0)) = sp_AB N B a false := by simp only [bd_at_in ha9 (by omega)]; simp [bm_after, zm_dl, h17, Int64.not_le.mpr h34, h62]
          exact W.iret hx hb hr (fun tt htt hWW => ⟨⟨_, (), rfl, (by simp only [bd_at_in ha9 (by omega)]; simp [am_new, h17, Int64.not_le.mpr h34, h62]), by rw [htt, eN, eO, eZ, eB]; exact hP, va_K.moved hWW.alike hK⟩, hS.F htt⟩) hS.2.2 dd_M_after_80
        · refine lv_ldc2 (v := 9223372036854775807) hx hb hown (hts _ tw_k2_M_109) dd_M_after_65 ?_
          refine lv_goto (tgt := 77) hx hb dd_M_after_68 rfl ?_
          refine bq_last hx hb hK hP (rf_D hJ ca (sp_AN N a) (sp_AO N O) Z (sp_AB N B a false)) hS 11 10 rfl rfl (by omega) (by decide) dd_M_after_77 (fun H locs hP _ hS => ?_)
          have hP : va_P D vw_cl (rf_W ra ca (sp_AN N a) (sp_AO N O) (sp_u Z 13 (N 6 0) 9223372036854775807) (sp_AB N B a false)) H := hP
          refine lv_iload hx hb dd_M_after_78 (lv_at hl 0 rfl) ?_
          have eN : nm_after N (bd_at (nI a) (N 1 0)) d = sp_AN N a := by simp only [bd_at_in ha9 (by omega)]; simp [nm_after, zm_dl, h17, Int64.not_le.mpr h34, Int64.not_lt.mpr h62]
          have eO : om_after N O (bd_at (nI a) (N 1 0)) = sp_AO N O := by simp only [bd_at_in ha9 (by omega)]; simp [om_after, zm_dl, h17, Int64.not_le.mpr h34, Int64.not_lt.mpr h62]
          have eZ : zm_after N Z (bd_at (nI a) (N 1 0)) d = sp_u Z 13 (N 6 0) 9223372036854775807 := by simp only [bd_at_in ha9 (by omega)]; simp [zm_after, zm_dl, h17, Int64.not_le.mpr h34, Int64.not_lt.mpr h62]
          have eB : bm_after N B (bd_at (nI a) (N 1 0)) = sp_AB N B a false := by simp only [bd_at_in ha9 (by omega)]; simp [bm_after, zm_dl, h17, Int64.not_le.mpr h34, Int64.not_lt.mpr h62]
          exact W.iret hx hb hr (fun tt htt hWW => ⟨⟨_, (), rfl, (by simp only [bd_at_in ha9 (by omega)]; simp [am_new, h17, Int64.not_le.mpr h34, Int64.not_lt.mpr h62]), by rw [htt, eN, eO, eZ, eB]; exact hP, va_K.moved hWW.alike hK⟩, hS.F htt⟩) hS.2.2 dd_M_after_80
      · refine lv_aload_n hx hb dd_M_after_37 rfl (lv_at hl 1 rfl) ?_
        refine lv_iload hx hb dd_M_after_38 (lv_at hl 0 rfl) ?_
        refine rf_callwv (As := [.int (nI (N 6 0))]) (rest := []) ⟨hx, hb, hml, hown, hts⟩ (rc_line l D ra ca hJ (sp_AN N a) (sp_AO N O) Z (sp_AB N B a false) (N 6 0) (by omega)) (bg_cwV 1 hts tw_ml_M_95 tw_im_M_line tw_se_M_line tw_in_M tw_co_M_line rfl rfl th_M_line ⟨Nat.le_of_ble_eq_true rfl, Nat.le_of_ble_eq_true rfl⟩) hK hP hS rfl hl.1 rfl (by decide) dd_M_after_40 ⟨Nat.zero_le _, Nat.zero_le _⟩ (fun H locs hP hS => ?_)
        refine lv_goto (tgt := 78) hx hb dd_M_after_43 rfl ?_
        refine lv_iload hx hb dd_M_after_78 (lv_at hl 0 rfl) ?_
        have eN : nm_after N (bd_at (nI a) (N 1 0)) d = sp_L (sp_AN N a) (N 6 0) := by simp only [bd_at_in ha9 (by omega)]; simp [nm_after, zm_dl, h17, h34]
        have eO : om_after N O (bd_at (nI a) (N 1 0)) = sp_AO N O := by simp only [bd_at_in ha9 (by omega)]; simp [om_after, zm_dl, h17, h34]
        have eZ : zm_after N Z (bd_at (nI a) (N 1 0)) d = Z := by simp only [bd_at_in ha9 (by omega)]; simp [zm_after, zm_dl, h17, h34]
        have eB : bm_after N B (bd_at (nI a) (N 1 0)) = sp_AB N B a false := by simp only [bd_at_in ha9 (by omega)]; simp [bm_after, zm_dl, h17, h34]
        exact W.iret hx hb hr (fun tt htt hWW => ⟨⟨_, (), rfl, (by simp only [bd_at_in ha9 (by omega)]; simp [am_new, h17, h34]), by rw [htt, eN, eO, eZ, eB]; exact hP, va_K.moved hWW.alike hK⟩, hS.F htt⟩) hS.2.2 dd_M_after_80
    · refine lv_bipush (v := -4) hx hb dd_M_after_20 (by decide) ?_
      have eN : nm_after N (bd_at (nI a) (N 1 0)) d = N := by simp only [bd_at_in ha9 (by omega)]; simp [nm_after, zm_dl, h17]
      have eO : om_after N O (bd_at (nI a) (N 1 0)) = O := by simp only [bd_at_in ha9 (by omega)]; simp [om_after, zm_dl, h17]
      have eZ : zm_after N Z (bd_at (nI a) (N 1 0)) d = Z := by simp only [bd_at_in ha9 (by omega)]; simp [zm_after, zm_dl, h17]
      have eB : bm_after N B (bd_at (nI a) (N 1 0)) = B := by simp only [bd_at_in ha9 (by omega)]; simp [bm_after, zm_dl, h17]
      exact W.iret hx hb hr (fun tt htt hWW => ⟨⟨_, (), rfl, (by simp only [bd_at_in ha9 (by omega)]; simp [am_new, h17]), by rw [htt, eN, eO, eZ, eB]; exact hP, va_K.moved hWW.alike hK⟩, hS.F htt⟩) hS.2.2 dd_M_after_22
  · refine lv_iconst (v := -1) hx hb dd_M_after_8 (by decide) ?_
    have eN : nm_after N (bd_at q (N 1 0)) d = N := by simp only [bd_at_none h5]; simp [nm_after, zm_dl]
    have eO : om_after N O (bd_at q (N 1 0)) = O := by simp only [bd_at_none h5]; simp [om_after, zm_dl]
    have eZ : zm_after N Z (bd_at q (N 1 0)) d = Z := by simp only [bd_at_none h5]; simp [zm_after, zm_dl]
    have eB : bm_after N B (bd_at q (N 1 0)) = B := by simp only [bd_at_none h5]; simp [bm_after, zm_dl]
    exact W.iret hx hb hr (fun tt htt hWW => ⟨⟨_, (), rfl, (by simp only [bd_at_none h5]; simp [am_new]), by rw [htt, eN, eO, eZ, eB]; exact hP, va_K.moved hWW.alike hK⟩, hS.F htt⟩) hS.2.2 dd_M_after_9

set_option maxHeartbeats 4000000 in
set_option maxRecDepth 100000 in
theorem rc_whenDone (l : Launch) (D : va_G) (ra : Nat → Nat) (ca : Nat → ClassId) (hJ : rf_J ra) (N : sp_N) (O : sp_O) (Z : sp_Z) (B : sp_B) (hB : sp_Bd N O) (gi q : Int32) : Met l my_M_whenDone (Cond.code my_M_whenDone cd_M_whenDone 4 (some .int) :: bg_tbl) ({ frames := 1, cells := 0, slots := 0, locals := 23 }) (va_Pc [.ref (ra 0), .int gi, .int q] (rf_U D ra ca N O Z B)) (va_Qi (fun r (_ : Unit) => r = am_when N (bd_at gi 4) (bd_at q (N 1 0))) (fun _ uu => rf_U D ra ca (nm_when N O (bd_at gi 4) (bd_at q (N 1 0))) (om_when N O (bd_at gi 4) (bd_at q (N 1 0))) Z (bm_when N B (bd_at gi 4) (bd_at q (N 1 0))) uu) (rf_A ra)) 0 0 (rf_A ra) := by
  refine Met.ofW (cc := cd_M_whenDone) (maxL := 4) (ret := (some .int)) (by decide) rfl ?_
  intro p e s m args below meth c s₁ BB hml hv
  obtain ⟨rfl, hP, hK⟩ := hv
  have hx := BB.exec
  have hb := BB.bytes
  have hr := BB.returns
  have hts : ∀ w ∈ bg_tbl, w.before ([.ref (ra 0), .int gi, .int q] : List Value).toArray s = true := fun w h => atoms_spec (ws := (Cond.code my_M_whenDone cd_M_whenDone 4 (some .int) :: bg_tbl)) BB.pre w (List.mem_cons_of_mem _ h)
  have hown : s.vm.findClass rn_M = some m.cls := findClass_of_methodNamed BB.named
  have hlocks := BB.notSynchronized
  obtain ⟨hB_0, hB_1, hB_2, hB_3, hB_4, hB_5, hB_6, hB_7, hB_8, hB_9, hB_10, hB_11, hB_12, hB_17⟩ := id hB
  have hS : va_S (rf_A ra) s.heap s.heap [] := va_S.rf
  have hl := lv_entry ([.ref (ra 0), .int gi, .int q]) (n := 4) (Nat.le_of_ble_eq_true rfl)
  rw [lg_entry_eq]
  generalize (lg_sl ([.ref (ra 0), .int gi, .int q]) ++ List.replicate (4 - (lg_sl ([.ref (ra 0), .int gi, .int q])).length) Slot.unset).toArray = ls at hl ⊢
  have hl : lv_has ls 4 [(0, .ref (ra 0)), (1, .int gi), (2, .int q)] := hl
  refine lv_iload_n hx hb dd_M_whenDone_0 rfl (lv_at hl 1 rfl) ?_
  refine lv_if_lt (tgt := 9) hx hb dd_M_whenDone_1 rfl (fun h1 => ?_) (fun h1 => ?_)
  · refine lv_bipush (v := -2) hx hb dd_M_whenDone_9 (by decide) ?_
    have eN : nm_when N O (bd_at gi 4) (bd_at q (N 1 0)) = N := by simp only [bd_at_none (bd_in_1 h1)]; simp [nm_when]
    have eO : om_when N O (bd_at gi 4) (bd_at q (N 1 0)) = O := by simp only [bd_at_none (bd_in_1 h1)]; simp [om_when]
    have eB : bm_when N B (bd_at gi 4) (bd_at q (N 1 0)) = B := by simp only [bd_at_none (bd_in_1 h1)]; simp [bm_when]
    exact W.iret hx hb hr (fun tt htt hWW => ⟨⟨_, (), rfl, (by simp only [bd_at_none (bd_in_1 h1)]; simp [am_when, am_new]), by rw [htt, eN, eO, eB]; exact hP, va_K.moved hWW.alike hK⟩, hS.F htt⟩) hS.2.2 dd_M_whenDone_11
  · refine lv_iload_n hx hb dd_M_whenDone_4 rfl (lv_at hl 1 rfl) ?_
    refine lv_iconst (v := nI 3) hx hb dd_M_whenDone_5 (by decide) ?_
    refine lv_icmp_le (tgt := 12) hx hb dd_M_whenDone_6 rfl (fun h6 => ?_) (fun h6 => ?_)
    · obtain ⟨k, hk9, rfl⟩ := bd_in_of (bd_in_4 h1 h6) (by decide)
      refine lv_aload_n hx hb dd_M_whenDone_12 rfl (lv_at hl 0 rfl) ?_
      refine lv_iload_n hx hb dd_M_whenDone_13 rfl (lv_at hl 2 rfl) ?_
      refine rf_calli (As := [.int q]) (rest := []) (v := bd_b (bd_in q (N 1 0))) ⟨hx, hb, hml, hown, hts⟩ (rc_isQueue l D ra ca N O Z B hB q) (bg_cwV 1 hts tw_ml_M_102 tw_im_M_isQueue tw_se_M_isQueue tw_in_M tw_co_M_isQueue rfl rfl th_M_isQueue ⟨Nat.le_of_ble_eq_true rfl, Nat.le_of_ble_eq_true rfl⟩) hK hP rfl hl.1 rfl (by decide) dd_M_whenDone_14 ⟨Nat.zero_le _, Nat.zero_le _⟩ ?_
      refine bq_zne (tgt := 22) hx hb dd_M_whenDone_17 rfl (fun h17 => ?_) (fun h17 => ?_)
      · obtain ⟨a, ha9, rfl⟩ := bd_in_of h17 (by omega)
        refine lv_aload_n hx hb dd_M_whenDone_22 rfl (lv_at hl 0 rfl) ?_
        refine va_get (D := D) (ci := 4) (v := .int (nI (N 6 0))) (C := rn_M) (T := ft_M) (N := 19) hx hb hts tw_fs_M hown hK hP 0 rfl rfl 6 (by decide) (hts _ tw_fl_M_61) (fun _ h9 => h9) rfl dd_M_whenDone_23 ?_
        refine lv_sipush (v := nI 160) hx hb dd_M_whenDone_26 (by decide) ?_
        refine bq_ne (tgt := 35) hx hb (Nat.lt_of_le_of_lt hB_6 (by decide)) (by decide) dd_M_whenDone_29 rfl (fun h29 => ?_) (fun h29 => ?_)
        · refine lv_aload_n hx hb dd_M_whenDone_35 rfl (lv_at hl 0 rfl) ?_
          refine lv_iload_n hx hb dd_M_whenDone_36 rfl (lv_at hl 2 rfl) ?_
          refine lv_iconst (v := bd_b false) hx hb dd_M_whenDone_37 (by decide) ?_
          refine rf_callwi (As := [.int (nI a), .int (bd_b false)]) (rest := []) (v := nI (N 6 0)) ⟨hx, hb, hml, hown, hts⟩ (rc_accept l D ra ca hJ N O Z B (by omega) a false (by omega)) (bg_cwV 2 hts tw_ml_M_105 tw_im_M_accept tw_se_M_accept tw_in_M tw_co_M_accept rfl rfl th_M_accept ⟨Nat.le_of_ble_eq_true rfl, Nat.le_of_ble_eq_true rfl⟩) hK hP hS rfl hl.1 rfl (by decide) dd_M_whenDone_38 ⟨Nat.zero_le _, Nat.zero_le _⟩ (fun H locs hP hS => ?_)
          refine lv_istore_n hx hb dd_M_whenDone_41 rfl hl (by decide) rfl (fun ls hl => ?_)
          have hl : lv_has ls 4 [(3, .int (nI (N 6 0))), (0, .ref (ra 0)), (1, .int (nI k)), (2, .int (nI a))] := hl
          refine lv_aload_n hx hb dd_M_whenDone_42 rfl (lv_at hl 1 rfl) ?_
          refine va_get (D := D) (ci := 4) (v := .ref (ra 11)) (C := rn_M) (T := ft_M) (N := 19) hx hb hts tw_fs_M hown hK hP 0 rfl rfl 11 (by decide) (hts _ tw_fl_M_38) (fun _ h9 => h9) rfl dd_M_whenDone_43 ?_
          refine lv_iload_n hx hb dd_M_whenDone_46 rfl (lv_at hl 0 rfl) ?_
          refine lv_iload_n hx hb dd_M_whenDone_47 rfl (lv_at hl 2 rfl) ?_
          refine bq_oast (v := some k) hx hb hK hP (rf_D hJ ca (sp_AN N a) (sp_AO N O) Z (sp_AB N B a false)) hS 9 8 rfl rfl (by omega) (by decide) dd_M_whenDone_48 (fun H locs hP _ hS => ?_)
          have hP : va_P D vw_cl (rf_W ra ca (sp_AN N a) (sp_u (sp_AO N O) 11 (N 6 0) (some k)) Z (sp_AB N B a false)) H := hP
          refine lv_aload_n hx hb dd_M_whenDone_49 rfl (lv_at hl 1 rfl) ?_
          refine lv_iload_n hx hb dd_M_whenDone_50 rfl (lv_at hl 2 rfl) ?_
          refine rf_calli (As := [.int (nI k)]) (rest := []) (v := nI (sp_g (sp_AN N a) (sp_u (sp_AO N O) 11 (N 6 0) (some k)) k)) ⟨hx, hb, hml, hown, hts⟩ (rc_countOf l D ra ca (sp_AN N a) (sp_u (sp_AO N O) 11 (N 6 0) (some k)) Z (sp_AB N B a false) (sp_Bd_A hB (by omega) (by omega) hk9) k (by omega)) (bg_cwV 1 hts tw_ml_M_92 tw_im_M_countOf tw_se_M_countOf tw_in_M tw_co_M_countOf rfl rfl th_M_countOf ⟨Nat.le_of_ble_eq_true rfl, Nat.le_of_ble_eq_true rfl⟩) hK hP rfl hl.1 rfl (by decide) dd_M_whenDone_51 ⟨Nat.zero_le _, Nat.zero_le _⟩ ?_
          refine bq_nne (tgt := 65) hx hb (sp_g_lt (sp_Bd_A hB (by omega) (by omega) hk9) _) dd_M_whenDone_54 rfl (fun h54 => ?_) (fun h54 => ?_)
          · refine lv_aload_n hx hb dd_M_whenDone_65 rfl (lv_at hl 1 rfl) ?_
            refine va_get (D := D) (ci := 4) (v := .ref (ra 8)) (C := rn_M) (T := ft_M) (N := 19) hx hb hts tw_fs_M hown hK hP 0 rfl rfl 8 (by decide) (hts _ tw_fl_M_29) (fun _ h9 => h9) rfl dd_M_whenDone_66 ?_
            refine lv_iload_n hx hb dd_M_whenDone_69 rfl (lv_at hl 0 rfl) ?_
            refine lv_iconst (v := nI 0) hx hb dd_M_whenDone_70 (by decide) ?_
            refine bq_iast hx hb hK hP (rf_D hJ ca (sp_AN N a) (sp_u (sp_AO N O) 11 (N 6 0) (some k)) Z (sp_AB N B a false)) hS 6 5 rfl rfl (by omega) (by decide) dd_M_whenDone_71 (fun H locs hP _ hS => ?_)
            have hP : va_P D vw_cl (rf_W ra ca (sp_u (sp_AN N a) 8 (N 6 0) 0) (sp_u (sp_AO N O) 11 (N 6 0) (some k)) Z (sp_AB N B a false)) H := hP
            refine lv_iload_n hx hb dd_M_whenDone_72 rfl (lv_at hl 0 rfl) ?_
            have eN : nm_when N O (bd_at (nI k) 4) (bd_at (nI a) (N 1 0)) = sp_u (sp_AN N a) 8 (N 6 0) 0 := by simp only [bd_at_in hk9 (by decide), bd_at_in ha9 (by omega)]; simp [nm_when, h29, h54]
            have eO : om_when N O (bd_at (nI k) 4) (bd_at (nI a) (N 1 0)) = sp_u (sp_AO N O) 11 (N 6 0) (some k) := by simp only [bd_at_in hk9 (by decide), bd_at_in ha9 (by omega)]; simp [om_when, h29, h54]
            have eB : bm_when N B (bd_at (nI k) 4) (bd_at (nI a) (N 1 0)) = sp_AB N B a false := by simp only [bd_at_in hk9 (by decide), bd_at_in ha9 (by omega)]; simp [bm_when, h29, h54]
            exact W.iret hx hb hr (fun tt htt hWW => ⟨⟨_, (), rfl, (by simp only [bd_at_in hk9 (by decide), bd_at_in ha9 (by omega)]; simp [am_when, am_new, h29, h54]), by rw [htt, eN, eO, eB]; exact hP, va_K.moved hWW.alike hK⟩, hS.F htt⟩) hS.2.2 dd_M_whenDone_73
          · refine lv_aload_n hx hb dd_M_whenDone_57 rfl (lv_at hl 1 rfl) ?_
            refine lv_iload_n hx hb dd_M_whenDone_58 rfl (lv_at hl 0 rfl) ?_
            refine rf_callwv (As := [.int (nI (N 6 0))]) (rest := []) ⟨hx, hb, hml, hown, hts⟩ (rc_line l D ra ca hJ (sp_AN N a) (sp_u (sp_AO N O) 11 (N 6 0) (some k)) Z (sp_AB N B a false) (N 6 0) (by omega)) (bg_cwV 1 hts tw_ml_M_95 tw_im_M_line tw_se_M_line tw_in_M tw_co_M_line rfl rfl th_M_line ⟨Nat.le_of_ble_eq_true rfl, Nat.le_of_ble_eq_true rfl⟩) hK hP hS rfl hl.1 rfl (by decide) dd_M_whenDone_59 ⟨Nat.zero_le _, Nat.zero_le _⟩ (fun H locs hP hS => ?_)
            refine lv_goto (tgt := 72) hx hb dd_M_whenDone_62 rfl ?_
            refine lv_iload_n hx hb dd_M_whenDone_72 rfl (lv_at hl 0 rfl) ?_
            have eN : nm_when N O (bd_at (nI k) 4) (bd_at (nI a) (N 1 0)) = sp_L (sp_AN N a) (N 6 0) := by simp only [bd_at_in hk9 (by decide), bd_at_in ha9 (by omega)]; simp [nm_when, h29, h54]
            have eO : om_when N O (bd_at (nI k) 4) (bd_at (nI a) (N 1 0)) = sp_u (sp_AO N O) 11 (N 6 0) (some k) := by simp only [bd_at_in hk9 (by decide), bd_at_in ha9 (by omega)]; simp [om_when, h29, h54]
            have eB : bm_when N B (bd_at (nI k) 4) (bd_at (nI a) (N 1 0)) = sp_AB N B a false := by simp only [bd_at_in hk9 (by decide), bd_at_in ha9 (by omega)]; simp [bm_when, h29, h54]
            exact W.iret hx hb hr (fun tt htt hWW => ⟨⟨_, (), rfl, (by simp only [bd_at_in hk9 (by decide), bd_at_in ha9 (by omega)]; simp [am_when, am_new, h29, h54]), by rw [htt, eN, eO, eB]; exact hP, va_K.moved hWW.alike hK⟩, hS.F htt⟩) hS.2.2 dd_M_whenDone_73
        · refine lv_bipush (v := -4) hx hb dd_M_whenDone_32 (by decide) ?_
          have eN : nm_when N O (bd_at (nI k) 4) (bd_at (nI a) (N 1 0)) = N := by simp only [bd_at_in hk9 (by decide), bd_at_in ha9 (by omega)]; simp [nm_when, h29]
          have eO : om_when N O (bd_at (nI k) 4) (bd_at (nI a) (N 1 0)) = O := by simp only [bd_at_in hk9 (by decide), bd_at_in ha9 (by omega)]; simp [om_when, h29]
          have eB : bm_when N B (bd_at (nI k) 4) (bd_at (nI a) (N 1 0)) = B := by simp only [bd_at_in hk9 (by decide), bd_at_in ha9 (by omega)]; simp [bm_when, h29]
          exact W.iret hx hb hr (fun tt htt hWW => ⟨⟨_, (), rfl, (by simp only [bd_at_in hk9 (by decide), bd_at_in ha9 (by omega)]; simp [am_when, am_new, h29]), by rw [htt, eN, eO, eB]; exact hP, va_K.moved hWW.alike hK⟩, hS.F htt⟩) hS.2.2 dd_M_whenDone_34
      · refine lv_iconst (v := -1) hx hb dd_M_whenDone_20 (by decide) ?_
        have eN : nm_when N O (bd_at (nI k) 4) (bd_at q (N 1 0)) = N := by simp only [bd_at_in hk9 (by decide), bd_at_none h17]; simp [nm_when]
        have eO : om_when N O (bd_at (nI k) 4) (bd_at q (N 1 0)) = O := by simp only [bd_at_in hk9 (by decide), bd_at_none h17]; simp [om_when]
        have eB : bm_when N B (bd_at (nI k) 4) (bd_at q (N 1 0)) = B := by simp only [bd_at_in hk9 (by decide), bd_at_none h17]; simp [bm_when]
        exact W.iret hx hb hr (fun tt htt hWW => ⟨⟨_, (), rfl, (by simp only [bd_at_in hk9 (by decide), bd_at_none h17]; simp [am_when, am_new]), by rw [htt, eN, eO, eB]; exact hP, va_K.moved hWW.alike hK⟩, hS.F htt⟩) hS.2.2 dd_M_whenDone_21
    · refine lv_bipush (v := -2) hx hb dd_M_whenDone_9 (by decide) ?_
      have eN : nm_when N O (bd_at gi 4) (bd_at q (N 1 0)) = N := by simp only [bd_at_none (bd_in_5 h6)]; simp [nm_when]
      have eO : om_when N O (bd_at gi 4) (bd_at q (N 1 0)) = O := by simp only [bd_at_none (bd_in_5 h6)]; simp [om_when]
      have eB : bm_when N B (bd_at gi 4) (bd_at q (N 1 0)) = B := by simp only [bd_at_none (bd_in_5 h6)]; simp [bm_when]
      exact W.iret hx hb hr (fun tt htt hWW => ⟨⟨_, (), rfl, (by simp only [bd_at_none (bd_in_5 h6)]; simp [am_when, am_new]), by rw [htt, eN, eO, eB]; exact hP, va_K.moved hWW.alike hK⟩, hS.F htt⟩) hS.2.2 dd_M_whenDone_11

set_option maxHeartbeats 4000000 in
set_option maxRecDepth 100000 in
theorem rc_enter (l : Launch) (D : va_G) (ra : Nat → Nat) (ca : Nat → ClassId) (hJ : rf_J ra) (N : sp_N) (O : sp_O) (Z : sp_Z) (B : sp_B) (hB : sp_Bd N O) (gi : Int32) : Met l my_M_enter (Cond.code my_M_enter cd_M_enter 2 (some .boolean) :: bg_tbl) ({ frames := 0, cells := 0, slots := 0, locals := 0 }) (va_Pc [.ref (ra 0), .int gi] (rf_U D ra ca N O Z B)) (va_Qi (fun r (_ : Unit) => r = bd_b (am_enter N (bd_at gi 4))) (fun _ uu => rf_U D ra ca (nm_enter N (bd_at gi 4)) O Z B uu) (rf_A ra)) 0 0 (rf_A ra) := by
  refine Met.ofW (cc := cd_M_enter) (maxL := 2) (ret := (some .boolean)) (by decide) rfl ?_
  intro p e s m args below meth c s₁ BB hml hv
  obtain ⟨rfl, hP, hK⟩ := hv
  have hx := BB.exec
  have hb := BB.bytes
  have hr := BB.returns
  have hts : ∀ w ∈ bg_tbl, w.before ([.ref (ra 0), .int gi] : List Value).toArray s = true := fun w h => atoms_spec (ws := (Cond.code my_M_enter cd_M_enter 2 (some .boolean) :: bg_tbl)) BB.pre w (List.mem_cons_of_mem _ h)
  have hown : s.vm.findClass rn_M = some m.cls := findClass_of_methodNamed BB.named
  have hlocks := BB.notSynchronized
  obtain ⟨hB_0, hB_1, hB_2, hB_3, hB_4, hB_5, hB_6, hB_7, hB_8, hB_9, hB_10, hB_11, hB_12, hB_17⟩ := id hB
  have hS : va_S (rf_A ra) s.heap s.heap [] := va_S.rf
  have hl := lv_entry ([.ref (ra 0), .int gi]) (n := 2) (Nat.le_of_ble_eq_true rfl)
  rw [lg_entry_eq]
  generalize (lg_sl ([.ref (ra 0), .int gi]) ++ List.replicate (2 - (lg_sl ([.ref (ra 0), .int gi])).length) Slot.unset).toArray = ls at hl ⊢
  have hl : lv_has ls 2 [(0, .ref (ra 0)), (1, .int gi)] := hl
  refine lv_iload_n hx hb dd_M_enter_0 rfl (lv_at hl 1 rfl) ?_
  refine lv_if_lt (tgt := 21) hx hb dd_M_enter_1 rfl (fun h1 => ?_) (fun h1 => ?_)
  · refine lv_iconst (v := bd_b false) hx hb dd_M_enter_21 (by decide) ?_
    have eN : nm_enter N (bd_at gi 4) = N := by simp only [bd_at_none (bd_in_1 h1)]; simp [nm_enter]
    exact W.zret (ty := .boolean) hx hb hr (bd_b_nar _) (fun tt htt hWW => ⟨⟨_, (), rfl, (by simp only [bd_at_none (bd_in_1 h1)]; simp [am_enter]), by rw [htt, eN]; exact hP, va_K.moved hWW.alike hK⟩, hS.F htt⟩) hS.2.2 dd_M_enter_22
  · refine lv_iload_n hx hb dd_M_enter_4 rfl (lv_at hl 1 rfl) ?_
    refine lv_iconst (v := nI 3) hx hb dd_M_enter_5 (by decide) ?_
    refine lv_icmp_gt (tgt := 21) hx hb dd_M_enter_6 rfl (fun h6 => ?_) (fun h6 => ?_)
    · refine lv_iconst (v := bd_b false) hx hb dd_M_enter_21 (by decide) ?_
      have eN : nm_enter N (bd_at gi 4) = N := by simp only [bd_at_none (bd_in_5 (Int32.not_le.mpr h6))]; simp [nm_enter]
      exact W.zret (ty := .boolean) hx hb hr (bd_b_nar _) (fun tt htt hWW => ⟨⟨_, (), rfl, (by simp only [bd_at_none (bd_in_5 (Int32.not_le.mpr h6))]; simp [am_enter]), by rw [htt, eN]; exact hP, va_K.moved hWW.alike hK⟩, hS.F htt⟩) hS.2.2 dd_M_enter_22
    · obtain ⟨k, hk9, rfl⟩ := bd_in_of (bd_in_4 h1 (Int32.not_lt.mp h6)) (by decide)
      have h17k := hB_17 k
      refine lv_aload_n hx hb dd_M_enter_9 rfl (lv_at hl 0 rfl) ?_
      refine va_get (D := D) (ci := 4) (v := .ref (ra 17)) (C := rn_M) (T := ft_M) (N := 19) hx hb hts tw_fs_M hown hK hP 0 rfl rfl 17 (by decide) (hts _ tw_fl_M_55) (fun _ h9 => h9) rfl dd_M_enter_10 ?_
      refine lv_iload_n hx hb dd_M_enter_13 rfl (lv_at hl 1 rfl) ?_
      refine bq_iald hx hb hK hP 14 13 rfl rfl (by omega) (by decide) dd_M_enter_14 ?_
      refine lv_sipush (v := nI 200) hx hb dd_M_enter_15 (by decide) ?_
      refine bq_lt (tgt := 23) hx hb (Nat.lt_of_le_of_lt (hB_17 k) (by decide)) (by decide) dd_M_enter_18 rfl (fun h18 => ?_) (fun h18 => ?_)
      · refine lv_aload_n hx hb dd_M_enter_23 rfl (lv_at hl 0 rfl) ?_
        refine va_get (D := D) (ci := 4) (v := .ref (ra 17)) (C := rn_M) (T := ft_M) (N := 19) hx hb hts tw_fs_M hown hK hP 0 rfl rfl 17 (by decide) (hts _ tw_fl_M_55) (fun _ h9 => h9) rfl dd_M_enter_24 ?_
        refine lv_iload_n hx hb dd_M_enter_27 rfl (lv_at hl 1 rfl) ?_
        refine lv_aload_n hx hb dd_M_enter_28 rfl (lv_at hl 0 rfl) ?_
        refine va_get (D := D) (ci := 4) (v := .ref (ra 17)) (C := rn_M) (T := ft_M) (N := 19) hx hb hts tw_fs_M hown hK hP 0 rfl rfl 17 (by decide) (hts _ tw_fl_M_55) (fun _ h9 => h9) rfl dd_M_enter_29 ?_
        refine lv_iload_n hx hb dd_M_enter_32 rfl (lv_at hl 1 rfl) ?_
        refine bq_iald hx hb hK hP 14 13 rfl rfl (by omega) (by decide) dd_M_enter_33 ?_
        refine lv_iconst (v := nI 1) hx hb dd_M_enter_34 (by decide) ?_
        refine lv_iadd hx hb dd_M_enter_35 ?_
        rw [nI_add]
        refine bq_iast hx hb hK hP (rf_D hJ ca N O Z B) hS 14 13 rfl rfl (by omega) (by decide) dd_M_enter_36 (fun H locs hP _ hS => ?_)
        have hP : va_P D vw_cl (rf_W ra ca (sp_u N 17 k ((N 17 k) + 1)) O Z B) H := hP
        refine lv_iconst (v := bd_b true) hx hb dd_M_enter_37 (by decide) ?_
        have eN : nm_enter N (bd_at (nI k) 4) = sp_u N 17 k ((N 17 k) + 1) := by simp only [bd_at_in hk9 (by decide)]; simp [nm_enter, h18, Nat.not_le.mpr h18]
        exact W.zret (ty := .boolean) hx hb hr (bd_b_nar _) (fun tt htt hWW => ⟨⟨_, (), rfl, (by simp only [bd_at_in hk9 (by decide)]; simp [am_enter, h18, Nat.not_le.mpr h18]), by rw [htt, eN]; exact hP, va_K.moved hWW.alike hK⟩, hS.F htt⟩) hS.2.2 dd_M_enter_38
      · refine lv_iconst (v := bd_b false) hx hb dd_M_enter_21 (by decide) ?_
        have eN : nm_enter N (bd_at (nI k) 4) = N := by simp only [bd_at_in hk9 (by decide)]; simp [nm_enter, h18, Nat.not_lt.mpr h18]
        exact W.zret (ty := .boolean) hx hb hr (bd_b_nar _) (fun tt htt hWW => ⟨⟨_, (), rfl, (by simp only [bd_at_in hk9 (by decide)]; simp [am_enter, h18, Nat.not_lt.mpr h18]), by rw [htt, eN]; exact hP, va_K.moved hWW.alike hK⟩, hS.F htt⟩) hS.2.2 dd_M_enter_22

set_option maxHeartbeats 4000000 in
set_option maxRecDepth 100000 in
theorem rc_leave (l : Launch) (D : va_G) (ra : Nat → Nat) (ca : Nat → ClassId) (hJ : rf_J ra) (N : sp_N) (O : sp_O) (Z : sp_Z) (B : sp_B) (hB : sp_Bd N O) (gi : Int32) : Met l my_M_leave (Cond.code my_M_leave cd_M_leave 2 (some .boolean) :: bg_tbl) ({ frames := 2, cells := 0, slots := 0, locals := 45 }) (va_Pc [.ref (ra 0), .int gi] (rf_U D ra ca N O Z B)) (va_Qi (fun r (_ : Unit) => r = bd_b (am_leave N (bd_at gi 4))) (fun _ uu => rf_U D ra ca (nm_leave N O (bd_at gi 4)) O Z B uu) (rf_A ra)) 0 0 (rf_A ra) := by
  refine Met.ofW (cc := cd_M_leave) (maxL := 2) (ret := (some .boolean)) (by decide) rfl ?_
  intro p e s m args below meth c s₁ BB hml hv
  obtain ⟨rfl, hP, hK⟩ := hv
  have hx := BB.exec
  have hb := BB.bytes
  have hr := BB.returns
  have hts : ∀ w ∈ bg_tbl, w.before ([.ref (ra 0), .int gi] : List Value).toArray s = true := fun w h => atoms_spec (ws := (Cond.code my_M_leave cd_M_leave 2 (some .boolean) :: bg_tbl)) BB.pre w (List.mem_cons_of_mem _ h)
  have hown : s.vm.findClass rn_M = some m.cls := findClass_of_methodNamed BB.named
  have hlocks := BB.notSynchronized
  obtain ⟨hB_0, hB_1, hB_2, hB_3, hB_4, hB_5, hB_6, hB_7, hB_8, hB_9, hB_10, hB_11, hB_12, hB_17⟩ := id hB
  have hS : va_S (rf_A ra) s.heap s.heap [] := va_S.rf
  have hl := lv_entry ([.ref (ra 0), .int gi]) (n := 2) (Nat.le_of_ble_eq_true rfl)
  rw [lg_entry_eq]
  generalize (lg_sl ([.ref (ra 0), .int gi]) ++ List.replicate (2 - (lg_sl ([.ref (ra 0), .int gi])).length) Slot.unset).toArray = ls at hl ⊢
  have hl : lv_has ls 2 [(0, .ref (ra 0)), (1, .int gi)] := hl
  refine lv_iload_n hx hb dd_M_leave_0 rfl (lv_at hl 1 rfl) ?_
  refine lv_if_lt (tgt := 18) hx hb dd_M_leave_1 rfl (fun h1 => ?_) (fun h1 => ?_)
  · refine lv_iconst (v := bd_b false) hx hb dd_M_leave_18 (by decide) ?_
    have eN : nm_leave N O (bd_at gi 4) = N := by simp only [bd_at_none (bd_in_1 h1)]; simp [nm_leave]
    exact W.zret (ty := .boolean) hx hb hr (bd_b_nar _) (fun tt htt hWW => ⟨⟨_, (), rfl, (by simp only [bd_at_none (bd_in_1 h1)]; simp [am_leave]), by rw [htt, eN]; exact hP, va_K.moved hWW.alike hK⟩, hS.F htt⟩) hS.2.2 dd_M_leave_19
  · refine lv_iload_n hx hb dd_M_leave_4 rfl (lv_at hl 1 rfl) ?_
    refine lv_iconst (v := nI 3) hx hb dd_M_leave_5 (by decide) ?_
    refine lv_icmp_gt (tgt := 18) hx hb dd_M_leave_6 rfl (fun h6 => ?_) (fun h6 => ?_)
    · refine lv_iconst (v := bd_b false) hx hb dd_M_leave_18 (by decide) ?_
      have eN : nm_leave N O (bd_at gi 4) = N := by simp only [bd_at_none (bd_in_5 (Int32.not_le.mpr h6))]; simp [nm_leave]
      exact W.zret (ty := .boolean) hx hb hr (bd_b_nar _) (fun tt htt hWW => ⟨⟨_, (), rfl, (by simp only [bd_at_none (bd_in_5 (Int32.not_le.mpr h6))]; simp [am_leave]), by rw [htt, eN]; exact hP, va_K.moved hWW.alike hK⟩, hS.F htt⟩) hS.2.2 dd_M_leave_19
    · obtain ⟨k, hk9, rfl⟩ := bd_in_of (bd_in_4 h1 (Int32.not_lt.mp h6)) (by decide)
      have h17k := hB_17 k
      refine lv_aload_n hx hb dd_M_leave_9 rfl (lv_at hl 0 rfl) ?_
      refine va_get (D := D) (ci := 4) (v := .ref (ra 17)) (C := rn_M) (T := ft_M) (N := 19) hx hb hts tw_fs_M hown hK hP 0 rfl rfl 17 (by decide) (hts _ tw_fl_M_55) (fun _ h9 => h9) rfl dd_M_leave_10 ?_
      refine lv_iload_n hx hb dd_M_leave_13 rfl (lv_at hl 1 rfl) ?_
      refine bq_iald hx hb hK hP 14 13 rfl rfl (by omega) (by decide) dd_M_leave_14 ?_
      refine bq_nne (tgt := 20) hx hb (Nat.lt_of_le_of_lt (hB_17 k) (by decide)) dd_M_leave_15 rfl (fun h15 => ?_) (fun h15 => ?_)
      · refine lv_aload_n hx hb dd_M_leave_20 rfl (lv_at hl 0 rfl) ?_
        refine va_get (D := D) (ci := 4) (v := .ref (ra 17)) (C := rn_M) (T := ft_M) (N := 19) hx hb hts tw_fs_M hown hK hP 0 rfl rfl 17 (by decide) (hts _ tw_fl_M_55) (fun _ h9 => h9) rfl dd_M_leave_21 ?_
        refine lv_iload_n hx hb dd_M_leave_24 rfl (lv_at hl 1 rfl) ?_
        refine lv_aload_n hx hb dd_M_leave_25 rfl (lv_at hl 0 rfl) ?_
        refine va_get (D := D) (ci := 4) (v := .ref (ra 17)) (C := rn_M) (T := ft_M) (N := 19) hx hb hts tw_fs_M hown hK hP 0 rfl rfl 17 (by decide) (hts _ tw_fl_M_55) (fun _ h9 => h9) rfl dd_M_leave_26 ?_
        refine lv_iload_n hx hb dd_M_leave_29 rfl (lv_at hl 1 rfl) ?_
        refine bq_iald hx hb hK hP 14 13 rfl rfl (by omega) (by decide) dd_M_leave_30 ?_
        refine lv_iconst (v := nI 1) hx hb dd_M_leave_31 (by decide) ?_
        refine lv_isub hx hb dd_M_leave_32 ?_
        rw [pk_sub (by omega)]
        refine bq_iast hx hb hK hP (rf_D hJ ca N O Z B) hS 14 13 rfl rfl (by omega) (by decide) dd_M_leave_33 (fun H locs hP _ hS => ?_)
        have hP : va_P D vw_cl (rf_W ra ca (sp_u N 17 k ((N 17 k) - 1)) O Z B) H := hP
        refine lv_aload_n hx hb dd_M_leave_34 rfl (lv_at hl 0 rfl) ?_
        refine lv_iload_n hx hb dd_M_leave_35 rfl (lv_at hl 1 rfl) ?_
        refine rf_callwv (As := [.int (nI k)]) (rest := []) ⟨hx, hb, hml, hown, hts⟩ (rc_release l D ra ca hJ (sp_u N 17 k ((N 17 k) - 1)) O Z B (sp_Bd_17 hB k ((N 17 k) - 1) (by first | decide | omega)) k hk9) (bg_cwV 1 hts tw_ml_M_99 tw_im_M_release tw_se_M_release tw_in_M tw_co_M_release rfl rfl th_M_release ⟨Nat.le_of_ble_eq_true rfl, Nat.le_of_ble_eq_true rfl⟩) hK hP hS rfl hl.1 rfl (by decide) dd_M_leave_36 ⟨Nat.zero_le _, Nat.zero_le _⟩ (fun H locs hP hS => ?_)
        refine lv_iconst (v := bd_b true) hx hb dd_M_leave_39 (by decide) ?_
        have eN : nm_leave N O (bd_at (nI k) 4) = sp_S (sp_u N 17 k ((N 17 k) - 1)) O k := by simp only [bd_at_in hk9 (by decide)]; simp [nm_leave, h15]
        exact W.zret (ty := .boolean) hx hb hr (bd_b_nar _) (fun tt htt hWW => ⟨⟨_, (), rfl, (by simp only [bd_at_in hk9 (by decide)]; simp [am_leave, h15]), by rw [htt, eN]; exact hP, va_K.moved hWW.alike hK⟩, hS.F htt⟩) hS.2.2 dd_M_leave_40
      · refine lv_iconst (v := bd_b false) hx hb dd_M_leave_18 (by decide) ?_
        have eN : nm_leave N O (bd_at (nI k) 4) = N := by simp only [bd_at_in hk9 (by decide)]; simp [nm_leave, h15]
        exact W.zret (ty := .boolean) hx hb hr (bd_b_nar _) (fun tt htt hWW => ⟨⟨_, (), rfl, (by simp only [bd_at_in hk9 (by decide)]; simp [am_leave, h15]), by rw [htt, eN]; exact hP, va_K.moved hWW.alike hK⟩, hS.F htt⟩) hS.2.2 dd_M_leave_19

set_option maxHeartbeats 4000000 in
set_option maxRecDepth 100000 in
theorem rc_cancel (l : Launch) (D : va_G) (ra : Nat → Nat) (ca : Nat → ClassId) (hJ : rf_J ra) (N : sp_N) (O : sp_O) (Z : sp_Z) (B : sp_B) (hB : sp_Bd N O) (ti : Int32) : Met l my_M_cancel (Cond.code my_M_cancel cd_M_cancel 2 (some .boolean) :: bg_tbl) ({ frames := 1, cells := 0, slots := 0, locals := 21 }) (va_Pc [.ref (ra 0), .int ti] (rf_U D ra ca N O Z B)) (va_Qi (fun r (_ : Unit) => r = bd_b (am_cancel N B (bd_at ti (N 6 0)))) (fun _ uu => rf_U D ra ca N O Z (bm_cancel N B (bd_at ti (N 6 0))) uu) (rf_A ra)) 0 0 (rf_A ra) := by
  refine Met.ofW (cc := cd_M_cancel) (maxL := 2) (ret := (some .boolean)) (by decide) rfl ?_
  intro p e s m args below meth c s₁ BB hml hv
  obtain ⟨rfl, hP, hK⟩ := hv
  have hx := BB.exec
  have hb := BB.bytes
  have hr := BB.returns
  have hts : ∀ w ∈ bg_tbl, w.before ([.ref (ra 0), .int ti] : List Value).toArray s = true := fun w h => atoms_spec (ws := (Cond.code my_M_cancel cd_M_cancel 2 (some .boolean) :: bg_tbl)) BB.pre w (List.mem_cons_of_mem _ h)
  have hown : s.vm.findClass rn_M = some m.cls := findClass_of_methodNamed BB.named
  have hlocks := BB.notSynchronized
  obtain ⟨hB_0, hB_1, hB_2, hB_3, hB_4, hB_5, hB_6, hB_7, hB_8, hB_9, hB_10, hB_11, hB_12, hB_17⟩ := id hB
  have hS : va_S (rf_A ra) s.heap s.heap [] := va_S.rf
  have hl := lv_entry ([.ref (ra 0), .int ti]) (n := 2) (Nat.le_of_ble_eq_true rfl)
  rw [lg_entry_eq]
  generalize (lg_sl ([.ref (ra 0), .int ti]) ++ List.replicate (2 - (lg_sl ([.ref (ra 0), .int ti])).length) Slot.unset).toArray = ls at hl ⊢
  have hl : lv_has ls 2 [(0, .ref (ra 0)), (1, .int ti)] := hl
  refine lv_aload_n hx hb dd_M_cancel_0 rfl (lv_at hl 0 rfl) ?_
  refine lv_iload_n hx hb dd_M_cancel_1 rfl (lv_at hl 1 rfl) ?_
  refine rf_calli (As := [.int ti]) (rest := []) (v := bd_b (bd_in ti (N 6 0))) ⟨hx, hb, hml, hown, hts⟩ (rc_isBlock l D ra ca N O Z B hB ti) (bg_cwV 1 hts tw_ml_M_115 tw_im_M_isBlock tw_se_M_isBlock tw_in_M tw_co_M_isBlock rfl rfl th_M_isBlock ⟨Nat.le_of_ble_eq_true rfl, Nat.le_of_ble_eq_true rfl⟩) hK hP rfl hl.1 rfl (by decide) dd_M_cancel_2 ⟨Nat.zero_le _, Nat.zero_le _⟩ ?_
  refine bq_zeq (tgt := 27) hx hb dd_M_cancel_5 rfl (fun h5 => ?_) (fun h5 => ?_)
  · refine lv_iconst (v := bd_b false) hx hb dd_M_cancel_27 (by decide) ?_
    have eB : bm_cancel N B (bd_at ti (N 6 0)) = B := by simp only [bd_at_none h5]; simp [bm_cancel]
    exact W.zret (ty := .boolean) hx hb hr (bd_b_nar _) (fun tt htt hWW => ⟨⟨_, (), rfl, (by simp only [bd_at_none h5]; simp [am_cancel]), by rw [htt, eB]; exact hP, va_K.moved hWW.alike hK⟩, hS.F htt⟩) hS.2.2 dd_M_cancel_28
  · obtain ⟨a, ha9, rfl⟩ := bd_in_of h5 (by omega)
    refine lv_aload_n hx hb dd_M_cancel_8 rfl (lv_at hl 0 rfl) ?_
    refine va_get (D := D) (ci := 4) (v := .ref (ra 8)) (C := rn_M) (T := ft_M) (N := 19) hx hb hts tw_fs_M hown hK hP 0 rfl rfl 8 (by decide) (hts _ tw_fl_M_29) (fun _ h9 => h9) rfl dd_M_cancel_9 ?_
    refine lv_iload_n hx hb dd_M_cancel_12 rfl (lv_at hl 1 rfl) ?_
    refine bq_iald hx hb hK hP 6 5 rfl rfl (by omega) (by decide) dd_M_cancel_13 ?_
    refine lv_iconst (v := nI 2) hx hb dd_M_cancel_14 (by decide) ?_
    refine bq_gt (tgt := 27) hx hb (Nat.lt_trans (hB_8 a) (by decide)) (by decide) dd_M_cancel_15 rfl (fun h15 => ?_) (fun h15 => ?_)
    · refine lv_iconst (v := bd_b false) hx hb dd_M_cancel_27 (by decide) ?_
      have eB : bm_cancel N B (bd_at (nI a) (N 6 0)) = B := by simp only [bd_at_in ha9 (by omega)]; simp [bm_cancel, h15, Nat.not_le.mpr h15]
      exact W.zret (ty := .boolean) hx hb hr (bd_b_nar _) (fun tt htt hWW => ⟨⟨_, (), rfl, (by simp only [bd_at_in ha9 (by omega)]; simp [am_cancel, h15, Nat.not_le.mpr h15]), by rw [htt, eB]; exact hP, va_K.moved hWW.alike hK⟩, hS.F htt⟩) hS.2.2 dd_M_cancel_28
    · refine lv_aload_n hx hb dd_M_cancel_18 rfl (lv_at hl 0 rfl) ?_
      refine va_get (D := D) (ci := 4) (v := .ref (ra 15)) (C := rn_M) (T := ft_M) (N := 19) hx hb hts tw_fs_M hown hK hP 0 rfl rfl 15 (by decide) (hts _ tw_fl_M_52) (fun _ h9 => h9) rfl dd_M_cancel_19 ?_
      refine lv_iload_n hx hb dd_M_cancel_22 rfl (lv_at hl 1 rfl) ?_
      refine bq_zald hx hb hK hP 13 12 rfl rfl (by omega) (by decide) dd_M_cancel_23 ?_
      refine bq_zeq (tgt := 29) hx hb dd_M_cancel_24 rfl (fun h24 => ?_) (fun h24 => ?_)
      · refine lv_aload_n hx hb dd_M_cancel_29 rfl (lv_at hl 0 rfl) ?_
        refine va_get (D := D) (ci := 4) (v := .ref (ra 15)) (C := rn_M) (T := ft_M) (N := 19) hx hb hts tw_fs_M hown hK hP 0 rfl rfl 15 (by decide) (hts _ tw_fl_M_52) (fun _ h9 => h9) rfl dd_M_cancel_30 ?_
        refine lv_iload_n hx hb dd_M_cancel_33 rfl (lv_at hl 1 rfl) ?_
        refine lv_iconst (v := bd_b true) hx hb dd_M_cancel_34 (by decide) ?_
        refine bq_zast hx hb hK hP (rf_D hJ ca N O Z B) hS 13 12 rfl rfl (by omega) (by decide) dd_M_cancel_35 (fun H locs hP _ hS => ?_)
        have hP : va_P D vw_cl (rf_W ra ca N O Z (sp_u B 15 a true)) H := hP
        refine lv_iconst (v := bd_b true) hx hb dd_M_cancel_36 (by decide) ?_
        have eB : bm_cancel N B (bd_at (nI a) (N 6 0)) = sp_u B 15 a true := by simp only [bd_at_in ha9 (by omega)]; simp [bm_cancel, h15, Nat.not_lt.mpr h15, h24]
        exact W.zret (ty := .boolean) hx hb hr (bd_b_nar _) (fun tt htt hWW => ⟨⟨_, (), rfl, (by simp only [bd_at_in ha9 (by omega)]; simp [am_cancel, h15, Nat.not_lt.mpr h15, h24]), by rw [htt, eB]; exact hP, va_K.moved hWW.alike hK⟩, hS.F htt⟩) hS.2.2 dd_M_cancel_37
      · refine lv_iconst (v := bd_b false) hx hb dd_M_cancel_27 (by decide) ?_
        have eB : bm_cancel N B (bd_at (nI a) (N 6 0)) = B := by simp only [bd_at_in ha9 (by omega)]; simp [bm_cancel, h15, Nat.not_lt.mpr h15, h24]
        exact W.zret (ty := .boolean) hx hb hr (bd_b_nar _) (fun tt htt hWW => ⟨⟨_, (), rfl, (by simp only [bd_at_in ha9 (by omega)]; simp [am_cancel, h15, Nat.not_lt.mpr h15, h24]), by rw [htt, eB]; exact hP, va_K.moved hWW.alike hK⟩, hS.F htt⟩) hS.2.2 dd_M_cancel_28

set_option maxHeartbeats 4000000 in
set_option maxRecDepth 100000 in
theorem rc_hold (l : Launch) (D : va_G) (ra : Nat → Nat) (ca : Nat → ClassId) (hJ : rf_J ra) (N : sp_N) (O : sp_O) (Z : sp_Z) (B : sp_B) (hB : sp_Bd N O) (q : Int32) (on : Bool) : Met l my_M_hold (Cond.code my_M_hold cd_M_hold 3 (some .int) :: bg_tbl) ({ frames := 1, cells := 0, slots := 0, locals := 21 }) (va_Pc [.ref (ra 0), .int q, .int (bd_b on)] (rf_U D ra ca N O Z B)) (va_Qi (fun r (_ : Unit) => r = am_hold N (bd_at q (N 1 0)) on) (fun _ uu => rf_U D ra ca (nm_hold N (bd_at q (N 1 0)) on) O Z B uu) (rf_A ra)) 0 0 (rf_A ra) := by
  refine Met.ofW (cc := cd_M_hold) (maxL := 3) (ret := (some .int)) (by decide) rfl ?_
  intro p e s m args below meth c s₁ BB hml hv
  obtain ⟨rfl, hP, hK⟩ := hv
  have hx := BB.exec
  have hb := BB.bytes
  have hr := BB.returns
  have hts : ∀ w ∈ bg_tbl, w.before ([.ref (ra 0), .int q, .int (bd_b on)] : List Value).toArray s = true := fun w h => atoms_spec (ws := (Cond.code my_M_hold cd_M_hold 3 (some .int) :: bg_tbl)) BB.pre w (List.mem_cons_of_mem _ h)
  have hown : s.vm.findClass rn_M = some m.cls := findClass_of_methodNamed BB.named
  have hlocks := BB.notSynchronized
  obtain ⟨hB_0, hB_1, hB_2, hB_3, hB_4, hB_5, hB_6, hB_7, hB_8, hB_9, hB_10, hB_11, hB_12, hB_17⟩ := id hB
  have hS : va_S (rf_A ra) s.heap s.heap [] := va_S.rf
  have hl := lv_entry ([.ref (ra 0), .int q, .int (bd_b on)]) (n := 3) (Nat.le_of_ble_eq_true rfl)
  rw [lg_entry_eq]
  generalize (lg_sl ([.ref (ra 0), .int q, .int (bd_b on)]) ++ List.replicate (3 - (lg_sl ([.ref (ra 0), .int q, .int (bd_b on)])).length) Slot.unset).toArray = ls at hl ⊢
  have hl : lv_has ls 3 [(0, .ref (ra 0)), (1, .int q), (2, .int (bd_b on))] := hl
  refine lv_aload_n hx hb dd_M_hold_0 rfl (lv_at hl 0 rfl) ?_
  refine lv_iload_n hx hb dd_M_hold_1 rfl (lv_at hl 1 rfl) ?_
  refine rf_calli (As := [.int q]) (rest := []) (v := bd_b (bd_in q (N 1 0))) ⟨hx, hb, hml, hown, hts⟩ (rc_isQueue l D ra ca N O Z B hB q) (bg_cwV 1 hts tw_ml_M_102 tw_im_M_isQueue tw_se_M_isQueue tw_in_M tw_co_M_isQueue rfl rfl th_M_isQueue ⟨Nat.le_of_ble_eq_true rfl, Nat.le_of_ble_eq_true rfl⟩) hK hP rfl hl.1 rfl (by decide) dd_M_hold_2 ⟨Nat.zero_le _, Nat.zero_le _⟩ ?_
  refine bq_zeq (tgt := 13) hx hb dd_M_hold_5 rfl (fun h5 => ?_) (fun h5 => ?_)
  · refine lv_iconst (v := -1) hx hb dd_M_hold_13 (by decide) ?_
    have eN : nm_hold N (bd_at q (N 1 0)) on = N := by simp only [bd_at_none h5]; simp [nm_hold]
    exact W.iret hx hb hr (fun tt htt hWW => ⟨⟨_, (), rfl, (by simp only [bd_at_none h5]; simp [am_hold]), by rw [htt, eN]; exact hP, va_K.moved hWW.alike hK⟩, hS.F htt⟩) hS.2.2 dd_M_hold_14
  · obtain ⟨a, ha9, rfl⟩ := bd_in_of h5 (by omega)
    refine lv_iload_n hx hb dd_M_hold_8 rfl (lv_at hl 1 rfl) ?_
    refine lv_iconst (v := nI 3) hx hb dd_M_hold_9 (by decide) ?_
    refine bq_ge (tgt := 15) hx hb (by omega) (by decide) dd_M_hold_10 rfl (fun h10 => ?_) (fun h10 => ?_)
    · refine lv_iload_n hx hb dd_M_hold_15 rfl (lv_at hl 2 rfl) ?_
      refine bq_zeq (tgt := 33) hx hb dd_M_hold_16 rfl (fun h16 => ?_) (fun h16 => ?_)
      · refine lv_iload_n hx hb dd_M_hold_33 rfl (lv_at hl 2 rfl) ?_
        have h4a := hB_4 a
        refine bq_zne (tgt := 49) hx hb dd_M_hold_34 rfl (fun h34 => ?_) (fun h34 => ?_)
        · rw [h16] at h34; cases h34
        · refine lv_aload_n hx hb dd_M_hold_37 rfl (lv_at hl 0 rfl) ?_
          refine va_get (D := D) (ci := 4) (v := .ref (ra 4)) (C := rn_M) (T := ft_M) (N := 19) hx hb hts tw_fs_M hown hK hP 0 rfl rfl 4 (by decide) (hts _ tw_fl_M_20) (fun _ h9 => h9) rfl dd_M_hold_38 ?_
          refine lv_iload_n hx hb dd_M_hold_41 rfl (lv_at hl 1 rfl) ?_
          refine bq_iald hx hb hK hP 3 2 rfl rfl (by omega) (by decide) dd_M_hold_42 ?_
          refine bq_nne (tgt := 49) hx hb (Nat.lt_of_le_of_lt (hB_4 a) (by decide)) dd_M_hold_43 rfl (fun h43 => ?_) (fun h43 => ?_)
          · refine lv_aload_n hx hb dd_M_hold_49 rfl (lv_at hl 0 rfl) ?_
            refine va_get (D := D) (ci := 4) (v := .ref (ra 4)) (C := rn_M) (T := ft_M) (N := 19) hx hb hts tw_fs_M hown hK hP 0 rfl rfl 4 (by decide) (hts _ tw_fl_M_20) (fun _ h9 => h9) rfl dd_M_hold_50 ?_
            refine lv_iload_n hx hb dd_M_hold_53 rfl (lv_at hl 1 rfl) ?_
            refine lv_iload_n hx hb dd_M_hold_54 rfl (lv_at hl 2 rfl) ?_
            refine bq_zeq (tgt := 69) hx hb dd_M_hold_55 rfl (fun h55 => ?_) (fun h55 => ?_)
            · refine lv_aload_n hx hb dd_M_hold_69 rfl (lv_at hl 0 rfl) ?_
              refine va_get (D := D) (ci := 4) (v := .ref (ra 4)) (C := rn_M) (T := ft_M) (N := 19) hx hb hts tw_fs_M hown hK hP 0 rfl rfl 4 (by decide) (hts _ tw_fl_M_20) (fun _ h9 => h9) rfl dd_M_hold_70 ?_
              refine lv_iload_n hx hb dd_M_hold_73 rfl (lv_at hl 1 rfl) ?_
              refine bq_iald hx hb hK hP 3 2 rfl rfl (by omega) (by decide) dd_M_hold_74 ?_
              refine lv_iconst (v := nI 1) hx hb dd_M_hold_75 (by decide) ?_
              refine lv_isub hx hb dd_M_hold_76 ?_
              rw [pk_sub (by omega)]
              refine bq_iast hx hb hK hP (rf_D hJ ca N O Z B) hS 3 2 rfl rfl (by omega) (by decide) dd_M_hold_77 (fun H locs hP _ hS => ?_)
              have hP : va_P D vw_cl (rf_W ra ca (sp_u N 4 a ((N 4 a) - 1)) O Z B) H := hP
              refine lv_aload_n hx hb dd_M_hold_78 rfl (lv_at hl 0 rfl) ?_
              refine va_get (D := D) (ci := 4) (v := .ref (ra 4)) (C := rn_M) (T := ft_M) (N := 19) hx hb hts tw_fs_M hown hK hP 0 rfl rfl 4 (by decide) (hts _ tw_fl_M_20) (fun _ h9 => h9) rfl dd_M_hold_79 ?_
              refine lv_iload_n hx hb dd_M_hold_82 rfl (lv_at hl 1 rfl) ?_
              refine bq_iald hx hb hK hP 3 2 rfl rfl (by omega) (by decide) dd_M_hold_83 ?_
              rw [sp_u_self]
              have eN : nm_hold N (bd_at (nI a) (N 1 0)) on = sp_u N 4 a ((N 4 a) - 1) := by simp only [bd_at_in ha9 (by omega)]; simp [nm_hold, h10, Nat.not_lt.mpr h10, h16, h34, h43, h55]
              exact W.iret hx hb hr (fun tt htt hWW => ⟨⟨_, (), rfl, (by simp only [bd_at_in ha9 (by omega)]; simp [am_hold, h10, Nat.not_lt.mpr h10, h16, h34, h43, h55]), by rw [htt, eN]; exact hP, va_K.moved hWW.alike hK⟩, hS.F htt⟩) hS.2.2 dd_M_hold_84
            · rw [h16] at h55; cases h55
          · refine lv_bipush (v := -8) hx hb dd_M_hold_46 (by decide) ?_
            have eN : nm_hold N (bd_at (nI a) (N 1 0)) on = N := by simp only [bd_at_in ha9 (by omega)]; simp [nm_hold, h10, Nat.not_lt.mpr h10, h16, h34, h43]
            exact W.iret hx hb hr (fun tt htt hWW => ⟨⟨_, (), rfl, (by simp only [bd_at_in ha9 (by omega)]; simp [am_hold, h10, Nat.not_lt.mpr h10, h16, h34, h43]), by rw [htt, eN]; exact hP, va_K.moved hWW.alike hK⟩, hS.F htt⟩) hS.2.2 dd_M_hold_48
      · refine lv_aload_n hx hb dd_M_hold_19 rfl (lv_at hl 0 rfl) ?_
        refine va_get (D := D) (ci := 4) (v := .ref (ra 4)) (C := rn_M) (T := ft_M) (N := 19) hx hb hts tw_fs_M hown hK hP 0 rfl rfl 4 (by decide) (hts _ tw_fl_M_20) (fun _ h9 => h9) rfl dd_M_hold_20 ?_
        refine lv_iload_n hx hb dd_M_hold_23 rfl (lv_at hl 1 rfl) ?_
        refine bq_iald hx hb hK hP 3 2 rfl rfl (by omega) (by decide) dd_M_hold_24 ?_
        refine lv_bipush (v := nI 100) hx hb dd_M_hold_25 (by decide) ?_
        refine bq_ne (tgt := 33) hx hb (Nat.lt_of_le_of_lt (hB_4 a) (by decide)) (by decide) dd_M_hold_27 rfl (fun h27 => ?_) (fun h27 => ?_)
        · refine lv_iload_n hx hb dd_M_hold_33 rfl (lv_at hl 2 rfl) ?_
          have h4a := hB_4 a
          refine bq_zne (tgt := 49) hx hb dd_M_hold_34 rfl (fun h34 => ?_) (fun h34 => ?_)
          · refine lv_aload_n hx hb dd_M_hold_49 rfl (lv_at hl 0 rfl) ?_
            refine va_get (D := D) (ci := 4) (v := .ref (ra 4)) (C := rn_M) (T := ft_M) (N := 19) hx hb hts tw_fs_M hown hK hP 0 rfl rfl 4 (by decide) (hts _ tw_fl_M_20) (fun _ h9 => h9) rfl dd_M_hold_50 ?_
            refine lv_iload_n hx hb dd_M_hold_53 rfl (lv_at hl 1 rfl) ?_
            refine lv_iload_n hx hb dd_M_hold_54 rfl (lv_at hl 2 rfl) ?_
            refine bq_zeq (tgt := 69) hx hb dd_M_hold_55 rfl (fun h55 => ?_) (fun h55 => ?_)
            · rw [h16] at h55; cases h55
            · refine lv_aload_n hx hb dd_M_hold_58 rfl (lv_at hl 0 rfl) ?_
              refine va_get (D := D) (ci := 4) (v := .ref (ra 4)) (C := rn_M) (T := ft_M) (N := 19) hx hb hts tw_fs_M hown hK hP 0 rfl rfl 4 (by decide) (hts _ tw_fl_M_20) (fun _ h9 => h9) rfl dd_M_hold_59 ?_
              refine lv_iload_n hx hb dd_M_hold_62 rfl (lv_at hl 1 rfl) ?_
              refine bq_iald hx hb hK hP 3 2 rfl rfl (by omega) (by decide) dd_M_hold_63 ?_
              refine lv_iconst (v := nI 1) hx hb dd_M_hold_64 (by decide) ?_
              refine lv_iadd hx hb dd_M_hold_65 ?_
              rw [nI_add]
              refine lv_goto (tgt := 77) hx hb dd_M_hold_66 rfl ?_
              refine bq_iast hx hb hK hP (rf_D hJ ca N O Z B) hS 3 2 rfl rfl (by omega) (by decide) dd_M_hold_77 (fun H locs hP _ hS => ?_)
              have hP : va_P D vw_cl (rf_W ra ca (sp_u N 4 a ((N 4 a) + 1)) O Z B) H := hP
              refine lv_aload_n hx hb dd_M_hold_78 rfl (lv_at hl 0 rfl) ?_
              refine va_get (D := D) (ci := 4) (v := .ref (ra 4)) (C := rn_M) (T := ft_M) (N := 19) hx hb hts tw_fs_M hown hK hP 0 rfl rfl 4 (by decide) (hts _ tw_fl_M_20) (fun _ h9 => h9) rfl dd_M_hold_79 ?_
              refine lv_iload_n hx hb dd_M_hold_82 rfl (lv_at hl 1 rfl) ?_
              refine bq_iald hx hb hK hP 3 2 rfl rfl (by omega) (by decide) dd_M_hold_83 ?_
              rw [sp_u_self]
              have eN : nm_hold N (bd_at (nI a) (N 1 0)) on = sp_u N 4 a ((N 4 a) + 1) := by simp only [bd_at_in ha9 (by omega)]; simp [nm_hold, h10, Nat.not_lt.mpr h10, h16, h27, h34, h55]
              exact W.iret hx hb hr (fun tt htt hWW => ⟨⟨_, (), rfl, (by simp only [bd_at_in ha9 (by omega)]; simp [am_hold, h10, Nat.not_lt.mpr h10, h16, h27, h34, h55]), by rw [htt, eN]; exact hP, va_K.moved hWW.alike hK⟩, hS.F htt⟩) hS.2.2 dd_M_hold_84
          · rw [h16] at h34; cases h34
        · refine lv_bipush (v := -4) hx hb dd_M_hold_30 (by decide) ?_
          have eN : nm_hold N (bd_at (nI a) (N 1 0)) on = N := by simp only [bd_at_in ha9 (by omega)]; simp [nm_hold, h10, Nat.not_lt.mpr h10, h16, h27]
          exact W.iret hx hb hr (fun tt htt hWW => ⟨⟨_, (), rfl, (by simp only [bd_at_in ha9 (by omega)]; simp [am_hold, h10, Nat.not_lt.mpr h10, h16, h27]), by rw [htt, eN]; exact hP, va_K.moved hWW.alike hK⟩, hS.F htt⟩) hS.2.2 dd_M_hold_32
    · refine lv_iconst (v := -1) hx hb dd_M_hold_13 (by decide) ?_
      have eN : nm_hold N (bd_at (nI a) (N 1 0)) on = N := by simp only [bd_at_in ha9 (by omega)]; simp [nm_hold, h10, Nat.not_le.mpr h10]
      exact W.iret hx hb hr (fun tt htt hWW => ⟨⟨_, (), rfl, (by simp only [bd_at_in ha9 (by omega)]; simp [am_hold, h10, Nat.not_le.mpr h10]), by rw [htt, eN]; exact hP, va_K.moved hWW.alike hK⟩, hS.F htt⟩) hS.2.2 dd_M_hold_14

set_option maxHeartbeats 4000000 in
set_option maxRecDepth 100000 in
theorem rc_finish (l : Launch) (D : va_G) (ra : Nat → Nat) (ca : Nat → ClassId) (hJ : rf_J ra) (N : sp_N) (O : sp_O) (Z : sp_Z) (B : sp_B) (hB : sp_Bd N O) (ti : Int32) : Met l my_M_finish (Cond.code my_M_finish cd_M_finish 2 (some .boolean) :: bg_tbl) ({ frames := 3, cells := 0, slots := 0, locals := 67 }) (va_Pc [.ref (ra 0), .int ti] (rf_U D ra ca N O Z B)) (va_Qi (fun r (_ : Unit) => r = bd_b (am_finish N (bd_at ti (N 6 0)))) (fun _ uu => rf_U D ra ca (nm_finish N O (bd_at ti (N 6 0))) O Z B uu) (rf_A ra)) 0 0 (rf_A ra) := by
  refine Met.ofW (cc := cd_M_finish) (maxL := 2) (ret := (some .boolean)) (by decide) rfl ?_
  intro p e s m args below meth c s₁ BB hml hv
  obtain ⟨rfl, hP, hK⟩ := hv
  have hx := BB.exec
  have hb := BB.bytes
  have hr := BB.returns
  have hts : ∀ w ∈ bg_tbl, w.before ([.ref (ra 0), .int ti] : List Value).toArray s = true := fun w h => atoms_spec (ws := (Cond.code my_M_finish cd_M_finish 2 (some .boolean) :: bg_tbl)) BB.pre w (List.mem_cons_of_mem _ h)
  have hown : s.vm.findClass rn_M = some m.cls := findClass_of_methodNamed BB.named
  have hlocks := BB.notSynchronized
  obtain ⟨hB_0, hB_1, hB_2, hB_3, hB_4, hB_5, hB_6, hB_7, hB_8, hB_9, hB_10, hB_11, hB_12, hB_17⟩ := id hB
  have hS : va_S (rf_A ra) s.heap s.heap [] := va_S.rf
  have hl := lv_entry ([.ref (ra 0), .int ti]) (n := 2) (Nat.le_of_ble_eq_true rfl)
  rw [lg_entry_eq]
  generalize (lg_sl ([.ref (ra 0), .int ti]) ++ List.replicate (2 - (lg_sl ([.ref (ra 0), .int ti])).length) Slot.unset).toArray = ls at hl ⊢
  have hl : lv_has ls 2 [(0, .ref (ra 0)), (1, .int ti)] := hl
  refine lv_aload_n hx hb dd_M_finish_0 rfl (lv_at hl 0 rfl) ?_
  refine lv_iload_n hx hb dd_M_finish_1 rfl (lv_at hl 1 rfl) ?_
  refine rf_calli (As := [.int ti]) (rest := []) (v := bd_b (bd_in ti (N 6 0))) ⟨hx, hb, hml, hown, hts⟩ (rc_isBlock l D ra ca N O Z B hB ti) (bg_cwV 1 hts tw_ml_M_115 tw_im_M_isBlock tw_se_M_isBlock tw_in_M tw_co_M_isBlock rfl rfl th_M_isBlock ⟨Nat.le_of_ble_eq_true rfl, Nat.le_of_ble_eq_true rfl⟩) hK hP rfl hl.1 rfl (by decide) dd_M_finish_2 ⟨Nat.zero_le _, Nat.zero_le _⟩ ?_
  refine bq_zeq (tgt := 18) hx hb dd_M_finish_5 rfl (fun h5 => ?_) (fun h5 => ?_)
  · refine lv_iconst (v := bd_b false) hx hb dd_M_finish_18 (by decide) ?_
    have eN : nm_finish N O (bd_at ti (N 6 0)) = N := by simp only [bd_at_none h5]; simp [nm_finish]
    exact W.zret (ty := .boolean) hx hb hr (bd_b_nar _) (fun tt htt hWW => ⟨⟨_, (), rfl, (by simp only [bd_at_none h5]; simp [am_finish]), by rw [htt, eN]; exact hP, va_K.moved hWW.alike hK⟩, hS.F htt⟩) hS.2.2 dd_M_finish_19
  · obtain ⟨a, ha9, rfl⟩ := bd_in_of h5 (by omega)
    refine lv_aload_n hx hb dd_M_finish_8 rfl (lv_at hl 0 rfl) ?_
    refine va_get (D := D) (ci := 4) (v := .ref (ra 8)) (C := rn_M) (T := ft_M) (N := 19) hx hb hts tw_fs_M hown hK hP 0 rfl rfl 8 (by decide) (hts _ tw_fl_M_29) (fun _ h9 => h9) rfl dd_M_finish_9 ?_
    refine lv_iload_n hx hb dd_M_finish_12 rfl (lv_at hl 1 rfl) ?_
    refine bq_iald hx hb hK hP 6 5 rfl rfl (by omega) (by decide) dd_M_finish_13 ?_
    refine lv_iconst (v := nI 3) hx hb dd_M_finish_14 (by decide) ?_
    refine bq_eq (tgt := 20) hx hb (Nat.lt_trans (hB_8 a) (by decide)) (by decide) dd_M_finish_15 rfl (fun h15 => ?_) (fun h15 => ?_)
    · refine lv_aload_n hx hb dd_M_finish_20 rfl (lv_at hl 0 rfl) ?_
      refine lv_iload_n hx hb dd_M_finish_21 rfl (lv_at hl 1 rfl) ?_
      refine lv_iconst (v := nI 5) hx hb dd_M_finish_22 (by decide) ?_
      refine rf_callwv (As := [.int (nI a), .int (nI 5)]) (rest := []) ⟨hx, hb, hml, hown, hts⟩ (rc_end l D ra ca hJ N O Z B hB a 5 (by omega) (by decide)) (bg_cwV 2 hts tw_ml_M_131 tw_im_M_end tw_se_M_end tw_in_M tw_co_M_end rfl rfl th_M_end ⟨Nat.le_of_ble_eq_true rfl, Nat.le_of_ble_eq_true rfl⟩) hK hP hS rfl hl.1 rfl (by decide) dd_M_finish_23 ⟨Nat.zero_le _, Nat.zero_le _⟩ (fun H locs hP hS => ?_)
      refine lv_iconst (v := bd_b true) hx hb dd_M_finish_26 (by decide) ?_
      have eN : nm_finish N O (bd_at (nI a) (N 6 0)) = sp_E N O a 5 := by simp only [bd_at_in ha9 (by omega)]; simp [nm_finish, h15]
      exact W.zret (ty := .boolean) hx hb hr (bd_b_nar _) (fun tt htt hWW => ⟨⟨_, (), rfl, (by simp only [bd_at_in ha9 (by omega)]; simp [am_finish, h15]), by rw [htt, eN]; exact hP, va_K.moved hWW.alike hK⟩, hS.F htt⟩) hS.2.2 dd_M_finish_27
    · refine lv_iconst (v := bd_b false) hx hb dd_M_finish_18 (by decide) ?_
      have eN : nm_finish N O (bd_at (nI a) (N 6 0)) = N := by simp only [bd_at_in ha9 (by omega)]; simp [nm_finish, h15]
      exact W.zret (ty := .boolean) hx hb hr (bd_b_nar _) (fun tt htt hWW => ⟨⟨_, (), rfl, (by simp only [bd_at_in ha9 (by omega)]; simp [am_finish, h15]), by rw [htt, eN]; exact hP, va_K.moved hWW.alike hK⟩, hS.F htt⟩) hS.2.2 dd_M_finish_19

