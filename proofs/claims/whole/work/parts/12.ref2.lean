/-! Part 12: the reference: passing, workersInUse, oldest, barrierRuns, lets, mayStart, countOf. By wip/gen/gen_ref2.py. -/
set_option maxHeartbeats 4000000 in
set_option maxRecDepth 100000 in
theorem rc_passing (l : Launch) (D : va_G) (ra : Nat → Nat) (ca : Nat → ClassId) (N : sp_N) (O : sp_O) (Z : sp_Z) (B : sp_B) (hB : sp_Bd N O) (x : Nat) (hx2 : x < 2 ^ 31) : Met l my_M_passing (Cond.code my_M_passing cd_M_passing 4 (some .int) :: bg_tbl) ({ frames := 1, cells := 0, slots := 0, locals := 24 }) (va_Pc [.ref (ra 0), .int (nI x)] (rf_U D ra ca N O Z B)) (vp_Si (fun r => r = nI (sp_p N x))) 0 0 (fun _ => False) := by
  refine Met.ofW (cc := cd_M_passing) (maxL := 4) (ret := (some .int)) (by decide) rfl ?_
  intro p e s m args below meth c s₁ BB hml hv
  obtain ⟨rfl, hP, hK⟩ := hv
  have hx := BB.exec
  have hb := BB.bytes
  have hr := BB.returns
  have hts : ∀ w ∈ bg_tbl, w.before ([.ref (ra 0), .int (nI x)] : List Value).toArray s = true := fun w h => atoms_spec (ws := (Cond.code my_M_passing cd_M_passing 4 (some .int) :: bg_tbl)) BB.pre w (List.mem_cons_of_mem _ h)
  have hown : s.vm.findClass rn_M = some m.cls := findClass_of_methodNamed BB.named
  have hlocks := BB.notSynchronized
  obtain ⟨hB_0, hB_1, hB_2, hB_3, hB_4, hB_5, hB_6, hB_7, hB_8, hB_9, hB_10, hB_11, hB_12, hB_17⟩ := id hB
  have hl := lv_entry ([.ref (ra 0), .int (nI x)]) (n := 4) (Nat.le_of_ble_eq_true rfl)
  rw [lg_entry_eq]
  generalize (lg_sl ([.ref (ra 0), .int (nI x)]) ++ List.replicate (4 - (lg_sl ([.ref (ra 0), .int (nI x)])).length) Slot.unset).toArray = ls at hl ⊢
  have hl : lv_has ls 4 [(0, .ref (ra 0)), (1, .int (nI x))] := hl
  have lp : ∀ (n : Nat) (t : Nat) (ls : Array Slot), (n + t = N 6 0) →  lv_has ls 4 [(0, .ref (ra 0)), (1, .int (nI x)), (2, .int (nI (sp_c (fun t => sp_v N t && sp_l N (N 7 t) x) t))), (3, .int (nI t))] → W p l e (headSpec (Cond.code my_M_passing cd_M_passing 4 (some .int) :: bg_tbl) ({ frames := 1, cells := 0, slots := 0, locals := 24 })).room s m ([.ref (ra 0), .int (nI x)] : List Value).toArray below meth c s.heap [] 0 0 (MQ below (vp_Si (fun r => r = nI (sp_p N x))) ([.ref (ra 0), .int (nI x)] : List Value).toArray s 0 0 (fun _ => False)) (F0 m 4 ls []) := by
    intro n
    induction n with
    | zero =>
      intro t ls hk hl
      refine lv_iload_n hx hb dd_M_passing_4 rfl (lv_at hl 3 rfl) ?_
      refine lv_aload_n hx hb dd_M_passing_5 rfl (lv_at hl 0 rfl) ?_
      refine va_get (D := D) (ci := 4) (v := .int (nI (N 6 0))) (C := rn_M) (T := ft_M) (N := 19) hx hb hts tw_fs_M hown hK hP 0 rfl rfl 6 (by decide) (hts _ tw_fl_M_61) (fun _ h9 => h9) rfl dd_M_passing_6 ?_
      refine bq_ge (tgt := 44) hx hb (by omega) (Nat.lt_of_le_of_lt hB_6 (by decide)) dd_M_passing_9 rfl (fun h9 => ?_) (fun h9 => ?_)
      · refine lv_iload_n hx hb dd_M_passing_44 rfl (lv_at hl 2 rfl) ?_
        exact W.iret hx hb hr (fun tt htt hWW => ⟨_, rfl, (by rw [show t = N 6 0 by omega]; rfl), htt⟩) (fun _ h => by cases h) dd_M_passing_45
      · exact absurd h9 (by omega)
    | succ n ih =>
      intro t ls hk hl
      refine lv_iload_n hx hb dd_M_passing_4 rfl (lv_at hl 3 rfl) ?_
      refine lv_aload_n hx hb dd_M_passing_5 rfl (lv_at hl 0 rfl) ?_
      refine va_get (D := D) (ci := 4) (v := .int (nI (N 6 0))) (C := rn_M) (T := ft_M) (N := 19) hx hb hts tw_fs_M hown hK hP 0 rfl rfl 6 (by decide) (hts _ tw_fl_M_61) (fun _ h9 => h9) rfl dd_M_passing_6 ?_
      refine bq_ge (tgt := 44) hx hb (by omega) (Nat.lt_of_le_of_lt hB_6 (by decide)) dd_M_passing_9 rfl (fun h9 => ?_) (fun h9 => ?_)
      · exact absurd h9 (by omega)
      · refine lv_aload_n hx hb dd_M_passing_12 rfl (lv_at hl 0 rfl) ?_
        refine lv_iload_n hx hb dd_M_passing_13 rfl (lv_at hl 3 rfl) ?_
        refine rf_calli (As := [.int (nI t)]) (rest := []) (v := bd_b (sp_v N t)) ⟨hx, hb, hml, hown, hts⟩ (rc_live l D ra ca N O Z B hB t (by omega)) (bg_cwV 1 hts tw_ml_M_68 tw_im_M_live tw_se_M_live tw_in_M tw_co_M_live rfl rfl th_M_live ⟨Nat.le_of_ble_eq_true rfl, Nat.le_of_ble_eq_true rfl⟩) hK hP rfl hl.1 rfl (by decide) dd_M_passing_14 ⟨Nat.zero_le _, Nat.zero_le _⟩ ?_
        refine bq_zeq (tgt := 38) hx hb dd_M_passing_17 rfl (fun h17 => ?_) (fun h17 => ?_)
        · refine lv_iinc (k := 3) (v := nI (t + 1)) hx hb dd_M_passing_38 hl rfl (nI_1 _) (by decide) rfl (fun ls hl => ?_)
          have hl : lv_has ls 4 [(3, .int (nI (t + 1))), (0, .ref (ra 0)), (1, .int (nI x)), (2, .int (nI (sp_c (fun t => sp_v N t && sp_l N (N 7 t) x) t)))] := hl
          refine lv_goto (tgt := 4) hx hb dd_M_passing_41 rfl ?_
          have e9 : sp_c (fun t => sp_v N t && sp_l N (N 7 t) x) (t + 1) = sp_c (fun t => sp_v N t && sp_l N (N 7 t) x) t := by simp [sp_c, h9, Nat.not_le.mpr h9, h17]
          exact ih (t + 1) ls (by omega) (by rw [e9]; exact lv_sub hl [1, 2, 3, 0] rfl)
        · refine lv_aload_n hx hb dd_M_passing_20 rfl (lv_at hl 0 rfl) ?_
          refine lv_aload_n hx hb dd_M_passing_21 rfl (lv_at hl 0 rfl) ?_
          refine va_get (D := D) (ci := 4) (v := .ref (ra 7)) (C := rn_M) (T := ft_M) (N := 19) hx hb hts tw_fs_M hown hK hP 0 rfl rfl 7 (by decide) (hts _ tw_fl_M_26) (fun _ h9 => h9) rfl dd_M_passing_22 ?_
          refine lv_iload_n hx hb dd_M_passing_25 rfl (lv_at hl 3 rfl) ?_
          refine bq_iald hx hb hK hP 5 4 rfl rfl (by omega) (by decide) dd_M_passing_26 ?_
          refine lv_iload_n hx hb dd_M_passing_27 rfl (lv_at hl 1 rfl) ?_
          refine rf_calli (As := [.int (nI (N 7 t)), .int (nI x)]) (rest := []) (v := bd_b (sp_l N (N 7 t) x)) ⟨hx, hb, hml, hown, hts⟩ (rc_leads l D ra ca N O Z B hB (N 7 t) x (hB_7 t) (by omega)) (bg_cwV 2 hts tw_ml_M_64 tw_im_M_leads tw_se_M_leads tw_in_M tw_co_M_leads rfl rfl th_M_leads ⟨Nat.le_of_ble_eq_true rfl, Nat.le_of_ble_eq_true rfl⟩) hK hP rfl hl.1 rfl (by decide) dd_M_passing_28 ⟨Nat.zero_le _, Nat.zero_le _⟩ ?_
          refine bq_zeq (tgt := 38) hx hb dd_M_passing_31 rfl (fun h31 => ?_) (fun h31 => ?_)
          · refine lv_iinc (k := 3) (v := nI (t + 1)) hx hb dd_M_passing_38 hl rfl (nI_1 _) (by decide) rfl (fun ls hl => ?_)
            have hl : lv_has ls 4 [(3, .int (nI (t + 1))), (0, .ref (ra 0)), (1, .int (nI x)), (2, .int (nI (sp_c (fun t => sp_v N t && sp_l N (N 7 t) x) t)))] := hl
            refine lv_goto (tgt := 4) hx hb dd_M_passing_41 rfl ?_
            have e9 : sp_c (fun t => sp_v N t && sp_l N (N 7 t) x) (t + 1) = sp_c (fun t => sp_v N t && sp_l N (N 7 t) x) t := by simp [sp_c, h9, Nat.not_le.mpr h9, h17, h31]
            exact ih (t + 1) ls (by omega) (by rw [e9]; exact lv_sub hl [1, 2, 3, 0] rfl)
          · refine lv_iload_n hx hb dd_M_passing_34 rfl (lv_at hl 2 rfl) ?_
            refine lv_iconst (v := nI 1) hx hb dd_M_passing_35 (by decide) ?_
            refine lv_iadd hx hb dd_M_passing_36 ?_
            rw [nI_add]
            refine lv_istore_n hx hb dd_M_passing_37 rfl hl (by decide) rfl (fun ls hl => ?_)
            have hl : lv_has ls 4 [(2, .int (nI ((sp_c (fun t => sp_v N t && sp_l N (N 7 t) x) t) + 1))), (0, .ref (ra 0)), (1, .int (nI x)), (3, .int (nI t))] := hl
            refine lv_iinc (k := 3) (v := nI (t + 1)) hx hb dd_M_passing_38 hl rfl (nI_1 _) (by decide) rfl (fun ls hl => ?_)
            have hl : lv_has ls 4 [(3, .int (nI (t + 1))), (2, .int (nI ((sp_c (fun t => sp_v N t && sp_l N (N 7 t) x) t) + 1))), (0, .ref (ra 0)), (1, .int (nI x))] := hl
            refine lv_goto (tgt := 4) hx hb dd_M_passing_41 rfl ?_
            have e9 : sp_c (fun t => sp_v N t && sp_l N (N 7 t) x) (t + 1) = (sp_c (fun t => sp_v N t && sp_l N (N 7 t) x) t) + 1 := by simp [sp_c, h9, Nat.not_le.mpr h9, h17, h31]
            exact ih (t + 1) ls (by omega) (by rw [e9]; exact lv_sub hl [2, 3, 1, 0] rfl)
  refine lv_iconst (v := nI 0) hx hb dd_M_passing_0 (by decide) ?_
  refine lv_istore_n hx hb dd_M_passing_1 rfl hl (by decide) rfl (fun ls hl => ?_)
  have hl : lv_has ls 4 [(2, .int (nI 0)), (0, .ref (ra 0)), (1, .int (nI x))] := hl
  refine lv_iconst (v := nI 0) hx hb dd_M_passing_2 (by decide) ?_
  refine lv_istore_n hx hb dd_M_passing_3 rfl hl (by decide) rfl (fun ls hl => ?_)
  have hl : lv_has ls 4 [(3, .int (nI 0)), (2, .int (nI 0)), (0, .ref (ra 0)), (1, .int (nI x))] := hl
  exact lp (N 6 0) 0 ls (by omega) (lv_sub hl [2, 3, 1, 0] rfl)

set_option maxHeartbeats 4000000 in
set_option maxRecDepth 100000 in
theorem rc_workersInUse (l : Launch) (D : va_G) (ra : Nat → Nat) (ca : Nat → ClassId) (N : sp_N) (O : sp_O) (Z : sp_Z) (B : sp_B) (hB : sp_Bd N O)  : Met l my_M_workersInUse (Cond.code my_M_workersInUse cd_M_workersInUse 3 (some .int) :: bg_tbl) ({ frames := 1, cells := 0, slots := 0, locals := 21 }) (va_Pc [.ref (ra 0)] (rf_U D ra ca N O Z B)) (vp_Si (fun r => r = nI (sp_w N O))) 0 0 (fun _ => False) := by
  refine Met.ofW (cc := cd_M_workersInUse) (maxL := 3) (ret := (some .int)) (by decide) rfl ?_
  intro p e s m args below meth c s₁ BB hml hv
  obtain ⟨rfl, hP, hK⟩ := hv
  have hx := BB.exec
  have hb := BB.bytes
  have hr := BB.returns
  have hts : ∀ w ∈ bg_tbl, w.before ([.ref (ra 0)] : List Value).toArray s = true := fun w h => atoms_spec (ws := (Cond.code my_M_workersInUse cd_M_workersInUse 3 (some .int) :: bg_tbl)) BB.pre w (List.mem_cons_of_mem _ h)
  have hown : s.vm.findClass rn_M = some m.cls := findClass_of_methodNamed BB.named
  have hlocks := BB.notSynchronized
  obtain ⟨hB_0, hB_1, hB_2, hB_3, hB_4, hB_5, hB_6, hB_7, hB_8, hB_9, hB_10, hB_11, hB_12, hB_17⟩ := id hB
  have hl := lv_entry ([.ref (ra 0)]) (n := 3) (Nat.le_of_ble_eq_true rfl)
  rw [lg_entry_eq]
  generalize (lg_sl ([.ref (ra 0)]) ++ List.replicate (3 - (lg_sl ([.ref (ra 0)])).length) Slot.unset).toArray = ls at hl ⊢
  have hl : lv_has ls 3 [(0, .ref (ra 0))] := hl
  have lp : ∀ (n : Nat) (t : Nat) (ls : Array Slot), (n + t = N 6 0) →  lv_has ls 3 [(0, .ref (ra 0)), (1, .int (nI (sp_c (fun t => sp_v N t && decide (O 9 t = none)) t))), (2, .int (nI t))] → W p l e (headSpec (Cond.code my_M_workersInUse cd_M_workersInUse 3 (some .int) :: bg_tbl) ({ frames := 1, cells := 0, slots := 0, locals := 21 })).room s m ([.ref (ra 0)] : List Value).toArray below meth c s.heap [] 0 0 (MQ below (vp_Si (fun r => r = nI (sp_w N O))) ([.ref (ra 0)] : List Value).toArray s 0 0 (fun _ => False)) (F0 m 4 ls []) := by
    intro n
    induction n with
    | zero =>
      intro t ls hk hl
      refine lv_iload_n hx hb dd_M_workersInUse_4 rfl (lv_at hl 2 rfl) ?_
      refine lv_aload_n hx hb dd_M_workersInUse_5 rfl (lv_at hl 0 rfl) ?_
      refine va_get (D := D) (ci := 4) (v := .int (nI (N 6 0))) (C := rn_M) (T := ft_M) (N := 19) hx hb hts tw_fs_M hown hK hP 0 rfl rfl 6 (by decide) (hts _ tw_fl_M_61) (fun _ h9 => h9) rfl dd_M_workersInUse_6 ?_
      refine bq_ge (tgt := 39) hx hb (by omega) (Nat.lt_of_le_of_lt hB_6 (by decide)) dd_M_workersInUse_9 rfl (fun h9 => ?_) (fun h9 => ?_)
      · refine lv_iload_n hx hb dd_M_workersInUse_39 rfl (lv_at hl 1 rfl) ?_
        exact W.iret hx hb hr (fun tt htt hWW => ⟨_, rfl, (by rw [show t = N 6 0 by omega]; rfl), htt⟩) (fun _ h => by cases h) dd_M_workersInUse_40
      · exact absurd h9 (by omega)
    | succ n ih =>
      intro t ls hk hl
      refine lv_iload_n hx hb dd_M_workersInUse_4 rfl (lv_at hl 2 rfl) ?_
      refine lv_aload_n hx hb dd_M_workersInUse_5 rfl (lv_at hl 0 rfl) ?_
      refine va_get (D := D) (ci := 4) (v := .int (nI (N 6 0))) (C := rn_M) (T := ft_M) (N := 19) hx hb hts tw_fs_M hown hK hP 0 rfl rfl 6 (by decide) (hts _ tw_fl_M_61) (fun _ h9 => h9) rfl dd_M_workersInUse_6 ?_
      refine bq_ge (tgt := 39) hx hb (by omega) (Nat.lt_of_le_of_lt hB_6 (by decide)) dd_M_workersInUse_9 rfl (fun h9 => ?_) (fun h9 => ?_)
      · exact absurd h9 (by omega)
      · refine lv_aload_n hx hb dd_M_workersInUse_12 rfl (lv_at hl 0 rfl) ?_
        refine lv_iload_n hx hb dd_M_workersInUse_13 rfl (lv_at hl 2 rfl) ?_
        refine rf_calli (As := [.int (nI t)]) (rest := []) (v := bd_b (sp_v N t)) ⟨hx, hb, hml, hown, hts⟩ (rc_live l D ra ca N O Z B hB t (by omega)) (bg_cwV 1 hts tw_ml_M_68 tw_im_M_live tw_se_M_live tw_in_M tw_co_M_live rfl rfl th_M_live ⟨Nat.le_of_ble_eq_true rfl, Nat.le_of_ble_eq_true rfl⟩) hK hP rfl hl.1 rfl (by decide) dd_M_workersInUse_14 ⟨Nat.zero_le _, Nat.zero_le _⟩ ?_
        refine bq_zeq (tgt := 33) hx hb dd_M_workersInUse_17 rfl (fun h17 => ?_) (fun h17 => ?_)
        · refine lv_iinc (k := 2) (v := nI (t + 1)) hx hb dd_M_workersInUse_33 hl rfl (nI_1 _) (by decide) rfl (fun ls hl => ?_)
          have hl : lv_has ls 3 [(2, .int (nI (t + 1))), (0, .ref (ra 0)), (1, .int (nI (sp_c (fun t => sp_v N t && decide (O 9 t = none)) t)))] := hl
          refine lv_goto (tgt := 4) hx hb dd_M_workersInUse_36 rfl ?_
          have e9 : sp_c (fun t => sp_v N t && decide (O 9 t = none)) (t + 1) = sp_c (fun t => sp_v N t && decide (O 9 t = none)) t := by simp [sp_c, h9, Nat.not_le.mpr h9, h17]
          exact ih (t + 1) ls (by omega) (by rw [e9]; exact lv_sub hl [1, 2, 0] rfl)
        · refine lv_aload_n hx hb dd_M_workersInUse_20 rfl (lv_at hl 0 rfl) ?_
          refine va_get (D := D) (ci := 4) (v := .ref (ra 9)) (C := rn_M) (T := ft_M) (N := 19) hx hb hts tw_fs_M hown hK hP 0 rfl rfl 9 (by decide) (hts _ tw_fl_M_32) (fun _ h9 => h9) rfl dd_M_workersInUse_21 ?_
          refine lv_iload_n hx hb dd_M_workersInUse_24 rfl (lv_at hl 2 rfl) ?_
          refine bq_iald hx hb hK hP 7 6 rfl rfl (by omega) (by decide) dd_M_workersInUse_25 ?_
          refine bq_oge (tgt := 33) hx hb (fun k hk => Nat.lt_trans (hB_9 _ k hk) (by decide)) dd_M_workersInUse_26 rfl (fun h26 => ?_) (fun h26 => ?_)
          · refine lv_iinc (k := 2) (v := nI (t + 1)) hx hb dd_M_workersInUse_33 hl rfl (nI_1 _) (by decide) rfl (fun ls hl => ?_)
            have hl : lv_has ls 3 [(2, .int (nI (t + 1))), (0, .ref (ra 0)), (1, .int (nI (sp_c (fun t => sp_v N t && decide (O 9 t = none)) t)))] := hl
            refine lv_goto (tgt := 4) hx hb dd_M_workersInUse_36 rfl ?_
            have e9 : sp_c (fun t => sp_v N t && decide (O 9 t = none)) (t + 1) = sp_c (fun t => sp_v N t && decide (O 9 t = none)) t := by simp [sp_c, h9, Nat.not_le.mpr h9, h17, h26]
            exact ih (t + 1) ls (by omega) (by rw [e9]; exact lv_sub hl [1, 2, 0] rfl)
          · refine lv_iload_n hx hb dd_M_workersInUse_29 rfl (lv_at hl 1 rfl) ?_
            refine lv_iconst (v := nI 1) hx hb dd_M_workersInUse_30 (by decide) ?_
            refine lv_iadd hx hb dd_M_workersInUse_31 ?_
            rw [nI_add]
            refine lv_istore_n hx hb dd_M_workersInUse_32 rfl hl (by decide) rfl (fun ls hl => ?_)
            have hl : lv_has ls 3 [(1, .int (nI ((sp_c (fun t => sp_v N t && decide (O 9 t = none)) t) + 1))), (0, .ref (ra 0)), (2, .int (nI t))] := hl
            refine lv_iinc (k := 2) (v := nI (t + 1)) hx hb dd_M_workersInUse_33 hl rfl (nI_1 _) (by decide) rfl (fun ls hl => ?_)
            have hl : lv_has ls 3 [(2, .int (nI (t + 1))), (1, .int (nI ((sp_c (fun t => sp_v N t && decide (O 9 t = none)) t) + 1))), (0, .ref (ra 0))] := hl
            refine lv_goto (tgt := 4) hx hb dd_M_workersInUse_36 rfl ?_
            have e9 : sp_c (fun t => sp_v N t && decide (O 9 t = none)) (t + 1) = (sp_c (fun t => sp_v N t && decide (O 9 t = none)) t) + 1 := by simp [sp_c, h9, Nat.not_le.mpr h9, h17, h26]
            exact ih (t + 1) ls (by omega) (by rw [e9]; exact lv_sub hl [2, 1, 0] rfl)
  refine lv_iconst (v := nI 0) hx hb dd_M_workersInUse_0 (by decide) ?_
  refine lv_istore_n hx hb dd_M_workersInUse_1 rfl hl (by decide) rfl (fun ls hl => ?_)
  have hl : lv_has ls 3 [(1, .int (nI 0)), (0, .ref (ra 0))] := hl
  refine lv_iconst (v := nI 0) hx hb dd_M_workersInUse_2 (by decide) ?_
  refine lv_istore_n hx hb dd_M_workersInUse_3 rfl hl (by decide) rfl (fun ls hl => ?_)
  have hl : lv_has ls 3 [(2, .int (nI 0)), (1, .int (nI 0)), (0, .ref (ra 0))] := hl
  exact lp (N 6 0) 0 ls (by omega) (lv_sub hl [2, 1, 0] rfl)

set_option maxHeartbeats 4000000 in
set_option maxRecDepth 100000 in
theorem rc_oldest (l : Launch) (D : va_G) (ra : Nat → Nat) (ca : Nat → ClassId) (N : sp_N) (O : sp_O) (Z : sp_Z) (B : sp_B) (hB : sp_Bd N O) (x : Nat) (hx2 : x < 2 ^ 31) : Met l my_M_oldest (Cond.code my_M_oldest cd_M_oldest 4 (some .int) :: bg_tbl) ({ frames := 0, cells := 0, slots := 0, locals := 0 }) (va_Pc [.ref (ra 0), .int (nI x)] (rf_U D ra ca N O Z B)) (vp_Si (fun r => r = bd_o (sp_o N x (N 6 0)))) 0 0 (fun _ => False) := by
  refine Met.ofW (cc := cd_M_oldest) (maxL := 4) (ret := (some .int)) (by decide) rfl ?_
  intro p e s m args below meth c s₁ BB hml hv
  obtain ⟨rfl, hP, hK⟩ := hv
  have hx := BB.exec
  have hb := BB.bytes
  have hr := BB.returns
  have hts : ∀ w ∈ bg_tbl, w.before ([.ref (ra 0), .int (nI x)] : List Value).toArray s = true := fun w h => atoms_spec (ws := (Cond.code my_M_oldest cd_M_oldest 4 (some .int) :: bg_tbl)) BB.pre w (List.mem_cons_of_mem _ h)
  have hown : s.vm.findClass rn_M = some m.cls := findClass_of_methodNamed BB.named
  have hlocks := BB.notSynchronized
  obtain ⟨hB_0, hB_1, hB_2, hB_3, hB_4, hB_5, hB_6, hB_7, hB_8, hB_9, hB_10, hB_11, hB_12, hB_17⟩ := id hB
  have hl := lv_entry ([.ref (ra 0), .int (nI x)]) (n := 4) (Nat.le_of_ble_eq_true rfl)
  rw [lg_entry_eq]
  generalize (lg_sl ([.ref (ra 0), .int (nI x)]) ++ List.replicate (4 - (lg_sl ([.ref (ra 0), .int (nI x)])).length) Slot.unset).toArray = ls at hl ⊢
  have hl : lv_has ls 4 [(0, .ref (ra 0)), (1, .int (nI x))] := hl
  have lp : ∀ (n : Nat) (t : Nat) (ls : Array Slot), (n + t = N 6 0) →  lv_has ls 4 [(0, .ref (ra 0)), (1, .int (nI x)), (2, .int (bd_o (sp_o N x t))), (3, .int (nI t))] → W p l e (headSpec (Cond.code my_M_oldest cd_M_oldest 4 (some .int) :: bg_tbl) ({ frames := 0, cells := 0, slots := 0, locals := 0 })).room s m ([.ref (ra 0), .int (nI x)] : List Value).toArray below meth c s.heap [] 0 0 (MQ below (vp_Si (fun r => r = bd_o (sp_o N x (N 6 0)))) ([.ref (ra 0), .int (nI x)] : List Value).toArray s 0 0 (fun _ => False)) (F0 m 4 ls []) := by
    intro n
    induction n with
    | zero =>
      intro t ls hk hl
      refine lv_iload_n hx hb dd_M_oldest_4 rfl (lv_at hl 3 rfl) ?_
      refine lv_aload_n hx hb dd_M_oldest_5 rfl (lv_at hl 0 rfl) ?_
      refine va_get (D := D) (ci := 4) (v := .int (nI (N 6 0))) (C := rn_M) (T := ft_M) (N := 19) hx hb hts tw_fs_M hown hK hP 0 rfl rfl 6 (by decide) (hts _ tw_fl_M_61) (fun _ h9 => h9) rfl dd_M_oldest_6 ?_
      refine bq_ge (tgt := 59) hx hb (by omega) (Nat.lt_of_le_of_lt hB_6 (by decide)) dd_M_oldest_9 rfl (fun h9 => ?_) (fun h9 => ?_)
      · refine lv_iload_n hx hb dd_M_oldest_59 rfl (lv_at hl 2 rfl) ?_
        exact W.iret hx hb hr (fun tt htt hWW => ⟨_, rfl, (by rw [show t = N 6 0 by omega]), htt⟩) (fun _ h => by cases h) dd_M_oldest_60
      · exact absurd h9 (by omega)
    | succ n ih =>
      intro t ls hk hl
      refine lv_iload_n hx hb dd_M_oldest_4 rfl (lv_at hl 3 rfl) ?_
      refine lv_aload_n hx hb dd_M_oldest_5 rfl (lv_at hl 0 rfl) ?_
      refine va_get (D := D) (ci := 4) (v := .int (nI (N 6 0))) (C := rn_M) (T := ft_M) (N := 19) hx hb hts tw_fs_M hown hK hP 0 rfl rfl 6 (by decide) (hts _ tw_fl_M_61) (fun _ h9 => h9) rfl dd_M_oldest_6 ?_
      refine bq_ge (tgt := 59) hx hb (by omega) (Nat.lt_of_le_of_lt hB_6 (by decide)) dd_M_oldest_9 rfl (fun h9 => ?_) (fun h9 => ?_)
      · exact absurd h9 (by omega)
      · refine lv_aload_n hx hb dd_M_oldest_12 rfl (lv_at hl 0 rfl) ?_
        refine va_get (D := D) (ci := 4) (v := .ref (ra 8)) (C := rn_M) (T := ft_M) (N := 19) hx hb hts tw_fs_M hown hK hP 0 rfl rfl 8 (by decide) (hts _ tw_fl_M_29) (fun _ h9 => h9) rfl dd_M_oldest_13 ?_
        refine lv_iload_n hx hb dd_M_oldest_16 rfl (lv_at hl 3 rfl) ?_
        refine bq_iald hx hb hK hP 6 5 rfl rfl (by omega) (by decide) dd_M_oldest_17 ?_
        refine lv_iconst (v := nI 2) hx hb dd_M_oldest_18 (by decide) ?_
        refine bq_ne (tgt := 53) hx hb (Nat.lt_trans (hB_8 t) (by decide)) (by decide) dd_M_oldest_19 rfl (fun h19 => ?_) (fun h19 => ?_)
        · refine lv_iinc (k := 3) (v := nI (t + 1)) hx hb dd_M_oldest_53 hl rfl (nI_1 _) (by decide) rfl (fun ls hl => ?_)
          have hl : lv_has ls 4 [(3, .int (nI (t + 1))), (0, .ref (ra 0)), (1, .int (nI x)), (2, .int (bd_o (sp_o N x t)))] := hl
          refine lv_goto (tgt := 4) hx hb dd_M_oldest_56 rfl ?_
          have e9 : sp_o N x (t + 1) = sp_o N x t := by simp [sp_o, sp_f, h9, Nat.not_le.mpr h9, h19]
          exact ih (t + 1) ls (by omega) (by rw [e9]; exact lv_sub hl [1, 2, 3, 0] rfl)
        · refine lv_aload_n hx hb dd_M_oldest_22 rfl (lv_at hl 0 rfl) ?_
          refine va_get (D := D) (ci := 4) (v := .ref (ra 7)) (C := rn_M) (T := ft_M) (N := 19) hx hb hts tw_fs_M hown hK hP 0 rfl rfl 7 (by decide) (hts _ tw_fl_M_26) (fun _ h9 => h9) rfl dd_M_oldest_23 ?_
          refine lv_iload_n hx hb dd_M_oldest_26 rfl (lv_at hl 3 rfl) ?_
          refine bq_iald hx hb hK hP 5 4 rfl rfl (by omega) (by decide) dd_M_oldest_27 ?_
          refine lv_iload_n hx hb dd_M_oldest_28 rfl (lv_at hl 1 rfl) ?_
          refine bq_ne (tgt := 53) hx hb (Nat.lt_trans (hB_7 t) (by decide)) (by omega) dd_M_oldest_29 rfl (fun h29 => ?_) (fun h29 => ?_)
          · refine lv_iinc (k := 3) (v := nI (t + 1)) hx hb dd_M_oldest_53 hl rfl (nI_1 _) (by decide) rfl (fun ls hl => ?_)
            have hl : lv_has ls 4 [(3, .int (nI (t + 1))), (0, .ref (ra 0)), (1, .int (nI x)), (2, .int (bd_o (sp_o N x t)))] := hl
            refine lv_goto (tgt := 4) hx hb dd_M_oldest_56 rfl ?_
            have e9 : sp_o N x (t + 1) = sp_o N x t := by simp [sp_o, sp_f, h9, Nat.not_le.mpr h9, h19, h29]
            exact ih (t + 1) ls (by omega) (by rw [e9]; exact lv_sub hl [1, 2, 3, 0] rfl)
          · refine lv_iload_n hx hb dd_M_oldest_32 rfl (lv_at hl 2 rfl) ?_
            refine bq_olt (tgt := 51) hx hb (fun k hk => by have h9 := (sp_o_some hk).1; omega) dd_M_oldest_33 rfl (fun h33 => ?_) (fun h33 => ?_)
            · refine lv_iload_n hx hb dd_M_oldest_51 rfl (lv_at hl 3 rfl) ?_
              refine lv_istore_n hx hb dd_M_oldest_52 rfl hl (by decide) rfl (fun ls hl => ?_)
              have hl : lv_has ls 4 [(2, .int (nI t)), (0, .ref (ra 0)), (1, .int (nI x)), (3, .int (nI t))] := hl
              refine lv_iinc (k := 3) (v := nI (t + 1)) hx hb dd_M_oldest_53 hl rfl (nI_1 _) (by decide) rfl (fun ls hl => ?_)
              have hl : lv_has ls 4 [(3, .int (nI (t + 1))), (2, .int (nI t)), (0, .ref (ra 0)), (1, .int (nI x))] := hl
              refine lv_goto (tgt := 4) hx hb dd_M_oldest_56 rfl ?_
              have e9 : sp_o N x (t + 1) = some t := by simp [sp_o, sp_f, h9, Nat.not_le.mpr h9, h19, h29, h33]
              exact ih (t + 1) ls (by omega) (by rw [e9]; exact lv_sub hl [2, 3, 1, 0] rfl)
            · obtain ⟨b, hb9⟩ := bd_ne h33
              have hbt := (sp_o_some hb9).1
              have hl : lv_has ls 4 [(0, .ref (ra 0)), (1, .int (nI x)), (2, .int (nI b)), (3, .int (nI t))] := by rw [hb9] at hl; exact hl
              refine lv_aload_n hx hb dd_M_oldest_36 rfl (lv_at hl 0 rfl) ?_
              refine va_get (D := D) (ci := 4) (v := .ref (ra 12)) (C := rn_M) (T := ft_M) (N := 19) hx hb hts tw_fs_M hown hK hP 0 rfl rfl 12 (by decide) (hts _ tw_fl_M_41) (fun _ h9 => h9) rfl dd_M_oldest_37 ?_
              refine lv_iload_n hx hb dd_M_oldest_40 rfl (lv_at hl 3 rfl) ?_
              refine bq_iald hx hb hK hP 10 9 rfl rfl (by omega) (by decide) dd_M_oldest_41 ?_
              refine lv_aload_n hx hb dd_M_oldest_42 rfl (lv_at hl 0 rfl) ?_
              refine va_get (D := D) (ci := 4) (v := .ref (ra 12)) (C := rn_M) (T := ft_M) (N := 19) hx hb hts tw_fs_M hown hK hP 0 rfl rfl 12 (by decide) (hts _ tw_fl_M_41) (fun _ h9 => h9) rfl dd_M_oldest_43 ?_
              refine lv_iload_n hx hb dd_M_oldest_46 rfl (lv_at hl 2 rfl) ?_
              refine bq_iald hx hb hK hP 10 9 rfl rfl (by omega) (by decide) dd_M_oldest_47 ?_
              refine bq_ge (tgt := 53) hx hb (hB_12 t) (hB_12 b) dd_M_oldest_48 rfl (fun h48 => ?_) (fun h48 => ?_)
              · refine lv_iinc (k := 3) (v := nI (t + 1)) hx hb dd_M_oldest_53 hl rfl (nI_1 _) (by decide) rfl (fun ls hl => ?_)
                have hl : lv_has ls 4 [(3, .int (nI (t + 1))), (0, .ref (ra 0)), (1, .int (nI x)), (2, .int (nI b))] := hl
                refine lv_goto (tgt := 4) hx hb dd_M_oldest_56 rfl ?_
                have e9 : sp_o N x (t + 1) = some b := by simp [sp_o, sp_f, h9, Nat.not_le.mpr h9, h19, h29, hb9, h48, Nat.not_lt.mpr h48]
                exact ih (t + 1) ls (by omega) (by rw [e9]; exact lv_sub hl [1, 2, 3, 0] rfl)
              · refine lv_iload_n hx hb dd_M_oldest_51 rfl (lv_at hl 3 rfl) ?_
                refine lv_istore_n hx hb dd_M_oldest_52 rfl hl (by decide) rfl (fun ls hl => ?_)
                have hl : lv_has ls 4 [(2, .int (nI t)), (0, .ref (ra 0)), (1, .int (nI x)), (3, .int (nI t))] := hl
                refine lv_iinc (k := 3) (v := nI (t + 1)) hx hb dd_M_oldest_53 hl rfl (nI_1 _) (by decide) rfl (fun ls hl => ?_)
                have hl : lv_has ls 4 [(3, .int (nI (t + 1))), (2, .int (nI t)), (0, .ref (ra 0)), (1, .int (nI x))] := hl
                refine lv_goto (tgt := 4) hx hb dd_M_oldest_56 rfl ?_
                have e9 : sp_o N x (t + 1) = some t := by simp [sp_o, sp_f, h9, Nat.not_le.mpr h9, h19, h29, hb9, h48, Nat.not_le.mpr h48]
                exact ih (t + 1) ls (by omega) (by rw [e9]; exact lv_sub hl [2, 3, 1, 0] rfl)
  refine lv_iconst (v := bd_o none) hx hb dd_M_oldest_0 (by decide) ?_
  refine lv_istore_n hx hb dd_M_oldest_1 rfl hl (by decide) rfl (fun ls hl => ?_)
  have hl : lv_has ls 4 [(2, .int (bd_o none)), (0, .ref (ra 0)), (1, .int (nI x))] := hl
  refine lv_iconst (v := nI 0) hx hb dd_M_oldest_2 (by decide) ?_
  refine lv_istore_n hx hb dd_M_oldest_3 rfl hl (by decide) rfl (fun ls hl => ?_)
  have hl : lv_has ls 4 [(3, .int (nI 0)), (2, .int (bd_o none)), (0, .ref (ra 0)), (1, .int (nI x))] := hl
  exact lp (N 6 0) 0 ls (by omega) (lv_sub hl [2, 3, 1, 0] rfl)

set_option maxHeartbeats 4000000 in
set_option maxRecDepth 100000 in
theorem rc_barrierRuns (l : Launch) (D : va_G) (ra : Nat → Nat) (ca : Nat → ClassId) (N : sp_N) (O : sp_O) (Z : sp_Z) (B : sp_B) (hB : sp_Bd N O) (x : Nat) (hx2 : x < 2 ^ 31) : Met l my_M_barrierRuns (Cond.code my_M_barrierRuns cd_M_barrierRuns 3 (some .boolean) :: bg_tbl) ({ frames := 1, cells := 0, slots := 0, locals := 21 }) (va_Pc [.ref (ra 0), .int (nI x)] (rf_U D ra ca N O Z B)) (vp_Si (fun r => r = bd_b (sp_b N B x))) 0 0 (fun _ => False) := by
  refine Met.ofW (cc := cd_M_barrierRuns) (maxL := 3) (ret := (some .boolean)) (by decide) rfl ?_
  intro p e s m args below meth c s₁ BB hml hv
  obtain ⟨rfl, hP, hK⟩ := hv
  have hx := BB.exec
  have hb := BB.bytes
  have hr := BB.returns
  have hts : ∀ w ∈ bg_tbl, w.before ([.ref (ra 0), .int (nI x)] : List Value).toArray s = true := fun w h => atoms_spec (ws := (Cond.code my_M_barrierRuns cd_M_barrierRuns 3 (some .boolean) :: bg_tbl)) BB.pre w (List.mem_cons_of_mem _ h)
  have hown : s.vm.findClass rn_M = some m.cls := findClass_of_methodNamed BB.named
  have hlocks := BB.notSynchronized
  obtain ⟨hB_0, hB_1, hB_2, hB_3, hB_4, hB_5, hB_6, hB_7, hB_8, hB_9, hB_10, hB_11, hB_12, hB_17⟩ := id hB
  have hl := lv_entry ([.ref (ra 0), .int (nI x)]) (n := 3) (Nat.le_of_ble_eq_true rfl)
  rw [lg_entry_eq]
  generalize (lg_sl ([.ref (ra 0), .int (nI x)]) ++ List.replicate (3 - (lg_sl ([.ref (ra 0), .int (nI x)])).length) Slot.unset).toArray = ls at hl ⊢
  have hl : lv_has ls 3 [(0, .ref (ra 0)), (1, .int (nI x))] := hl
  have lp : ∀ (n : Nat) (t : Nat) (ls : Array Slot), (n + t = N 6 0) → (sp_a (fun t => sp_v N t && B 14 t && decide (N 7 t = x)) t = false) →  lv_has ls 3 [(0, .ref (ra 0)), (1, .int (nI x)), (2, .int (nI t))] → W p l e (headSpec (Cond.code my_M_barrierRuns cd_M_barrierRuns 3 (some .boolean) :: bg_tbl) ({ frames := 1, cells := 0, slots := 0, locals := 21 })).room s m ([.ref (ra 0), .int (nI x)] : List Value).toArray below meth c s.heap [] 0 0 (MQ below (vp_Si (fun r => r = bd_b (sp_b N B x))) ([.ref (ra 0), .int (nI x)] : List Value).toArray s 0 0 (fun _ => False)) (F0 m 2 ls []) := by
    intro n
    induction n with
    | zero =>
      intro t ls hk hn hl
      refine lv_iload_n hx hb dd_M_barrierRuns_2 rfl (lv_at hl 2 rfl) ?_
      refine lv_aload_n hx hb dd_M_barrierRuns_3 rfl (lv_at hl 0 rfl) ?_
      refine va_get (D := D) (ci := 4) (v := .int (nI (N 6 0))) (C := rn_M) (T := ft_M) (N := 19) hx hb hts tw_fs_M hown hK hP 0 rfl rfl 6 (by decide) (hts _ tw_fl_M_61) (fun _ h9 => h9) rfl dd_M_barrierRuns_4 ?_
      refine bq_ge (tgt := 45) hx hb (by omega) (Nat.lt_of_le_of_lt hB_6 (by decide)) dd_M_barrierRuns_7 rfl (fun h7 => ?_) (fun h7 => ?_)
      · refine lv_iconst (v := bd_b false) hx hb dd_M_barrierRuns_45 (by decide) ?_
        exact W.zret (ty := .boolean) hx hb hr (bd_b_nar _) (fun tt htt hWW => ⟨_, rfl, (by rw [sp_b, ← show t = N 6 0 by omega, hn]), htt⟩) (fun _ h => by cases h) dd_M_barrierRuns_46
      · exact absurd h7 (by omega)
    | succ n ih =>
      intro t ls hk hn hl
      refine lv_iload_n hx hb dd_M_barrierRuns_2 rfl (lv_at hl 2 rfl) ?_
      refine lv_aload_n hx hb dd_M_barrierRuns_3 rfl (lv_at hl 0 rfl) ?_
      refine va_get (D := D) (ci := 4) (v := .int (nI (N 6 0))) (C := rn_M) (T := ft_M) (N := 19) hx hb hts tw_fs_M hown hK hP 0 rfl rfl 6 (by decide) (hts _ tw_fl_M_61) (fun _ h9 => h9) rfl dd_M_barrierRuns_4 ?_
      refine bq_ge (tgt := 45) hx hb (by omega) (Nat.lt_of_le_of_lt hB_6 (by decide)) dd_M_barrierRuns_7 rfl (fun h7 => ?_) (fun h7 => ?_)
      · exact absurd h7 (by omega)
      · refine lv_aload_n hx hb dd_M_barrierRuns_10 rfl (lv_at hl 0 rfl) ?_
        refine lv_iload_n hx hb dd_M_barrierRuns_11 rfl (lv_at hl 2 rfl) ?_
        refine rf_calli (As := [.int (nI t)]) (rest := []) (v := bd_b (sp_v N t)) ⟨hx, hb, hml, hown, hts⟩ (rc_live l D ra ca N O Z B hB t (by omega)) (bg_cwV 1 hts tw_ml_M_68 tw_im_M_live tw_se_M_live tw_in_M tw_co_M_live rfl rfl th_M_live ⟨Nat.le_of_ble_eq_true rfl, Nat.le_of_ble_eq_true rfl⟩) hK hP rfl hl.1 rfl (by decide) dd_M_barrierRuns_12 ⟨Nat.zero_le _, Nat.zero_le _⟩ ?_
        refine bq_zeq (tgt := 39) hx hb dd_M_barrierRuns_15 rfl (fun h15 => ?_) (fun h15 => ?_)
        · refine lv_iinc (k := 2) (v := nI (t + 1)) hx hb dd_M_barrierRuns_39 hl rfl (nI_1 _) (by decide) rfl (fun ls hl => ?_)
          have hl : lv_has ls 3 [(2, .int (nI (t + 1))), (0, .ref (ra 0)), (1, .int (nI x))] := hl
          refine lv_goto (tgt := 2) hx hb dd_M_barrierRuns_42 rfl ?_
          exact ih (t + 1) ls (by omega) (by simp [sp_a, hn, h7, Nat.not_le.mpr h7, h15]) (lv_sub hl [1, 2, 0] rfl)
        · refine lv_aload_n hx hb dd_M_barrierRuns_18 rfl (lv_at hl 0 rfl) ?_
          refine va_get (D := D) (ci := 4) (v := .ref (ra 14)) (C := rn_M) (T := ft_M) (N := 19) hx hb hts tw_fs_M hown hK hP 0 rfl rfl 14 (by decide) (hts _ tw_fl_M_48) (fun _ h9 => h9) rfl dd_M_barrierRuns_19 ?_
          refine lv_iload_n hx hb dd_M_barrierRuns_22 rfl (lv_at hl 2 rfl) ?_
          refine bq_zald hx hb hK hP 12 11 rfl rfl (by omega) (by decide) dd_M_barrierRuns_23 ?_
          refine bq_zeq (tgt := 39) hx hb dd_M_barrierRuns_24 rfl (fun h24 => ?_) (fun h24 => ?_)
          · refine lv_iinc (k := 2) (v := nI (t + 1)) hx hb dd_M_barrierRuns_39 hl rfl (nI_1 _) (by decide) rfl (fun ls hl => ?_)
            have hl : lv_has ls 3 [(2, .int (nI (t + 1))), (0, .ref (ra 0)), (1, .int (nI x))] := hl
            refine lv_goto (tgt := 2) hx hb dd_M_barrierRuns_42 rfl ?_
            exact ih (t + 1) ls (by omega) (by simp [sp_a, hn, h7, Nat.not_le.mpr h7, h15, h24]) (lv_sub hl [1, 2, 0] rfl)
          · refine lv_aload_n hx hb dd_M_barrierRuns_27 rfl (lv_at hl 0 rfl) ?_
            refine va_get (D := D) (ci := 4) (v := .ref (ra 7)) (C := rn_M) (T := ft_M) (N := 19) hx hb hts tw_fs_M hown hK hP 0 rfl rfl 7 (by decide) (hts _ tw_fl_M_26) (fun _ h9 => h9) rfl dd_M_barrierRuns_28 ?_
            refine lv_iload_n hx hb dd_M_barrierRuns_31 rfl (lv_at hl 2 rfl) ?_
            refine bq_iald hx hb hK hP 5 4 rfl rfl (by omega) (by decide) dd_M_barrierRuns_32 ?_
            refine lv_iload_n hx hb dd_M_barrierRuns_33 rfl (lv_at hl 1 rfl) ?_
            refine bq_ne (tgt := 39) hx hb (Nat.lt_trans (hB_7 t) (by decide)) (by omega) dd_M_barrierRuns_34 rfl (fun h34 => ?_) (fun h34 => ?_)
            · refine lv_iinc (k := 2) (v := nI (t + 1)) hx hb dd_M_barrierRuns_39 hl rfl (nI_1 _) (by decide) rfl (fun ls hl => ?_)
              have hl : lv_has ls 3 [(2, .int (nI (t + 1))), (0, .ref (ra 0)), (1, .int (nI x))] := hl
              refine lv_goto (tgt := 2) hx hb dd_M_barrierRuns_42 rfl ?_
              exact ih (t + 1) ls (by omega) (by simp [sp_a, hn, h7, Nat.not_le.mpr h7, h15, h24, h34]) (lv_sub hl [1, 2, 0] rfl)
            · refine lv_iconst (v := bd_b true) hx hb dd_M_barrierRuns_37 (by decide) ?_
              exact W.zret (ty := .boolean) hx hb hr (bd_b_nar _) (fun tt htt hWW => ⟨_, rfl, (by rw [sp_b, sp_a_iff.mpr ⟨t, by omega, by simp [h7, Nat.not_le.mpr h7, h15, h24, h34]⟩]), htt⟩) (fun _ h => by cases h) dd_M_barrierRuns_38
  refine lv_iconst (v := nI 0) hx hb dd_M_barrierRuns_0 (by decide) ?_
  refine lv_istore_n hx hb dd_M_barrierRuns_1 rfl hl (by decide) rfl (fun ls hl => ?_)
  have hl : lv_has ls 3 [(2, .int (nI 0)), (0, .ref (ra 0)), (1, .int (nI x))] := hl
  exact lp (N 6 0) 0 ls (by omega) rfl (lv_sub hl [1, 2, 0] rfl)

set_option maxHeartbeats 4000000 in
set_option maxRecDepth 100000 in
theorem rc_lets (l : Launch) (D : va_G) (ra : Nat → Nat) (ca : Nat → ClassId) (N : sp_N) (O : sp_O) (Z : sp_Z) (B : sp_B) (hB : sp_Bd N O) (x t : Nat) (hx2 : x < 12) (ht2 : t < 160) : Met l my_M_lets (Cond.code my_M_lets cd_M_lets 4 (some .boolean) :: bg_tbl) ({ frames := 2, cells := 0, slots := 0, locals := 47 }) (va_Pc [.ref (ra 0), .int (nI x), .int (nI t)] (rf_U D ra ca N O Z B)) (vp_Si (fun r => r = bd_b (sp_t N B x t))) 0 0 (fun _ => False) := by
  refine Met.ofW (cc := cd_M_lets) (maxL := 4) (ret := (some .boolean)) (by decide) rfl ?_
  intro p e s m args below meth c s₁ BB hml hv
  obtain ⟨rfl, hP, hK⟩ := hv
  have hx := BB.exec
  have hb := BB.bytes
  have hr := BB.returns
  have hts : ∀ w ∈ bg_tbl, w.before ([.ref (ra 0), .int (nI x), .int (nI t)] : List Value).toArray s = true := fun w h => atoms_spec (ws := (Cond.code my_M_lets cd_M_lets 4 (some .boolean) :: bg_tbl)) BB.pre w (List.mem_cons_of_mem _ h)
  have hown : s.vm.findClass rn_M = some m.cls := findClass_of_methodNamed BB.named
  have hlocks := BB.notSynchronized
  obtain ⟨hB_0, hB_1, hB_2, hB_3, hB_4, hB_5, hB_6, hB_7, hB_8, hB_9, hB_10, hB_11, hB_12, hB_17⟩ := id hB
  have hl := lv_entry ([.ref (ra 0), .int (nI x), .int (nI t)]) (n := 4) (Nat.le_of_ble_eq_true rfl)
  rw [lg_entry_eq]
  generalize (lg_sl ([.ref (ra 0), .int (nI x), .int (nI t)]) ++ List.replicate (4 - (lg_sl ([.ref (ra 0), .int (nI x), .int (nI t)])).length) Slot.unset).toArray = ls at hl ⊢
  have hl : lv_has ls 4 [(0, .ref (ra 0)), (1, .int (nI x)), (2, .int (nI t))] := hl
  refine lv_iload_n hx hb dd_M_lets_0 rfl (lv_at hl 1 rfl) ?_
  refine lv_iconst (v := nI 3) hx hb dd_M_lets_1 (by decide) ?_
  refine bq_lt (tgt := 30) hx hb (by omega) (by decide) dd_M_lets_2 rfl (fun h2 => ?_) (fun h2 => ?_)
  · refine lv_aload_n hx hb dd_M_lets_30 rfl (lv_at hl 0 rfl) ?_
    refine lv_iload_n hx hb dd_M_lets_31 rfl (lv_at hl 1 rfl) ?_
    refine rf_calli (As := [.int (nI x)]) (rest := []) (v := bd_b (sp_b N B x)) ⟨hx, hb, hml, hown, hts⟩ (rc_barrierRuns l D ra ca N O Z B hB x (by omega)) (bg_cwV 1 hts tw_ml_M_76 tw_im_M_barrierRuns tw_se_M_barrierRuns tw_in_M tw_co_M_barrierRuns rfl rfl th_M_barrierRuns ⟨Nat.le_of_ble_eq_true rfl, Nat.le_of_ble_eq_true rfl⟩) hK hP rfl hl.1 rfl (by decide) dd_M_lets_32 ⟨Nat.zero_le _, Nat.zero_le _⟩ ?_
    refine bq_zeq (tgt := 40) hx hb dd_M_lets_35 rfl (fun h35 => ?_) (fun h35 => ?_)
    · refine lv_iload_n hx hb dd_M_lets_40 rfl (lv_at hl 1 rfl) ?_
      refine lv_aload_n hx hb dd_M_lets_41 rfl (lv_at hl 0 rfl) ?_
      refine va_get (D := D) (ci := 4) (v := .ref (ra 7)) (C := rn_M) (T := ft_M) (N := 19) hx hb hts tw_fs_M hown hK hP 0 rfl rfl 7 (by decide) (hts _ tw_fl_M_26) (fun _ h9 => h9) rfl dd_M_lets_42 ?_
      refine lv_iload_n hx hb dd_M_lets_45 rfl (lv_at hl 2 rfl) ?_
      refine bq_iald hx hb hK hP 5 4 rfl rfl ht2 (by decide) dd_M_lets_46 ?_
      refine bq_ne (tgt := 54) hx hb (by omega) (Nat.lt_trans (hB_7 t) (by decide)) dd_M_lets_47 rfl (fun h47 => ?_) (fun h47 => ?_)
      · refine lv_aload_n hx hb dd_M_lets_54 rfl (lv_at hl 0 rfl) ?_
        refine lv_iload_n hx hb dd_M_lets_55 rfl (lv_at hl 1 rfl) ?_
        refine rf_calli (As := [.int (nI x)]) (rest := []) (v := bd_o (sp_o N x (N 6 0))) ⟨hx, hb, hml, hown, hts⟩ (rc_oldest l D ra ca N O Z B hB x (by omega)) (bg_cwV 1 hts tw_ml_M_79 tw_im_M_oldest tw_se_M_oldest tw_in_M tw_co_M_oldest rfl rfl th_M_oldest ⟨Nat.le_of_ble_eq_true rfl, Nat.le_of_ble_eq_true rfl⟩) hK hP rfl hl.1 rfl (by decide) dd_M_lets_56 ⟨Nat.zero_le _, Nat.zero_le _⟩ ?_
        refine lv_istore_n hx hb dd_M_lets_59 rfl hl (by decide) rfl (fun ls hl => ?_)
        have hl : lv_has ls 4 [(3, .int (bd_o (sp_o N x (N 6 0)))), (0, .ref (ra 0)), (1, .int (nI x)), (2, .int (nI t))] := hl
        refine lv_iload_n hx hb dd_M_lets_60 rfl (lv_at hl 0 rfl) ?_
        refine bq_olt (tgt := 73) hx hb (fun k hk => by have h9 := (sp_o_some hk).1; omega) dd_M_lets_61 rfl (fun h61 => ?_) (fun h61 => ?_)
        · refine lv_iconst (v := bd_b true) hx hb dd_M_lets_73 (by decide) ?_
          refine lv_goto (tgt := 78) hx hb dd_M_lets_74 rfl ?_
          exact W.zret (ty := .boolean) hx hb hr (bd_b_nar _) (fun tt htt hWW => ⟨_, rfl, (by simp [sp_t, sp_ff, h2, Nat.not_le.mpr h2, h35, h47, h61]), htt⟩) (fun _ h => by cases h) dd_M_lets_78
        · obtain ⟨b, hb9⟩ := bd_ne h61
          have hbt := (sp_o_some hb9).1
          have hl : lv_has ls 4 [(3, .int (nI b)), (0, .ref (ra 0)), (1, .int (nI x)), (2, .int (nI t))] := by rw [hb9] at hl; exact hl
          refine lv_aload_n hx hb dd_M_lets_64 rfl (lv_at hl 1 rfl) ?_
          refine va_get (D := D) (ci := 4) (v := .ref (ra 14)) (C := rn_M) (T := ft_M) (N := 19) hx hb hts tw_fs_M hown hK hP 0 rfl rfl 14 (by decide) (hts _ tw_fl_M_48) (fun _ h9 => h9) rfl dd_M_lets_65 ?_
          refine lv_iload_n hx hb dd_M_lets_68 rfl (lv_at hl 0 rfl) ?_
          refine bq_zald hx hb hK hP 12 11 rfl rfl (by omega) (by decide) dd_M_lets_69 ?_
          refine bq_zne (tgt := 77) hx hb dd_M_lets_70 rfl (fun h70 => ?_) (fun h70 => ?_)
          · refine lv_iconst (v := bd_b false) hx hb dd_M_lets_77 (by decide) ?_
            exact W.zret (ty := .boolean) hx hb hr (bd_b_nar _) (fun tt htt hWW => ⟨_, rfl, (by simp [sp_t, sp_ff, h2, Nat.not_le.mpr h2, h35, h47, hb9, h70]), htt⟩) (fun _ h => by cases h) dd_M_lets_78
          · refine lv_iconst (v := bd_b true) hx hb dd_M_lets_73 (by decide) ?_
            refine lv_goto (tgt := 78) hx hb dd_M_lets_74 rfl ?_
            exact W.zret (ty := .boolean) hx hb hr (bd_b_nar _) (fun tt htt hWW => ⟨_, rfl, (by simp [sp_t, sp_ff, h2, Nat.not_le.mpr h2, h35, h47, hb9, h70]), htt⟩) (fun _ h => by cases h) dd_M_lets_78
      · refine lv_iconst (v := bd_o none) hx hb dd_M_lets_50 (by decide) ?_
        refine lv_goto (tgt := 59) hx hb dd_M_lets_51 rfl ?_
        refine lv_istore_n hx hb dd_M_lets_59 rfl hl (by decide) rfl (fun ls hl => ?_)
        have hl : lv_has ls 4 [(3, .int (bd_o none)), (0, .ref (ra 0)), (1, .int (nI x)), (2, .int (nI t))] := hl
        refine lv_iload_n hx hb dd_M_lets_60 rfl (lv_at hl 0 rfl) ?_
        refine bq_olt (tgt := 73) hx hb (fun k hk => by cases hk) dd_M_lets_61 rfl (fun h61 => ?_) (fun h61 => ?_)
        · refine lv_iconst (v := bd_b true) hx hb dd_M_lets_73 (by decide) ?_
          refine lv_goto (tgt := 78) hx hb dd_M_lets_74 rfl ?_
          exact W.zret (ty := .boolean) hx hb hr (bd_b_nar _) (fun tt htt hWW => ⟨_, rfl, (by simp [sp_t, sp_ff, h2, Nat.not_le.mpr h2, h35, ← h47, h61]), htt⟩) (fun _ h => by cases h) dd_M_lets_78
        · exact absurd rfl h61
    · refine lv_iconst (v := bd_b false) hx hb dd_M_lets_38 (by decide) ?_
      exact W.zret (ty := .boolean) hx hb hr (bd_b_nar _) (fun tt htt hWW => ⟨_, rfl, (by simp [sp_t, sp_ff, h2, Nat.not_le.mpr h2, h35]), htt⟩) (fun _ h => by cases h) dd_M_lets_39
  · refine lv_aload_n hx hb dd_M_lets_5 rfl (lv_at hl 0 rfl) ?_
    refine va_get (D := D) (ci := 4) (v := .ref (ra 4)) (C := rn_M) (T := ft_M) (N := 19) hx hb hts tw_fs_M hown hK hP 0 rfl rfl 4 (by decide) (hts _ tw_fl_M_20) (fun _ h9 => h9) rfl dd_M_lets_6 ?_
    refine lv_iload_n hx hb dd_M_lets_9 rfl (lv_at hl 1 rfl) ?_
    refine bq_iald hx hb hK hP 3 2 rfl rfl hx2 (by decide) dd_M_lets_10 ?_
    refine bq_ngt (tgt := 28) hx hb (Nat.lt_of_le_of_lt (hB_4 x) (by decide)) dd_M_lets_11 rfl (fun h11 => ?_) (fun h11 => ?_)
    · refine lv_iconst (v := bd_b false) hx hb dd_M_lets_28 (by decide) ?_
      exact W.zret (ty := .boolean) hx hb hr (bd_b_nar _) (fun tt htt hWW => ⟨_, rfl, (by simp [sp_t, sp_ff, h2, Nat.not_lt.mpr h2, h11, Nat.not_le.mpr h11]), htt⟩) (fun _ h => by cases h) dd_M_lets_29
    · refine lv_aload_n hx hb dd_M_lets_14 rfl (lv_at hl 0 rfl) ?_
      refine lv_iload_n hx hb dd_M_lets_15 rfl (lv_at hl 1 rfl) ?_
      refine rf_calli (As := [.int (nI x)]) (rest := []) (v := nI (sp_p N x)) ⟨hx, hb, hml, hown, hts⟩ (rc_passing l D ra ca N O Z B hB x (by omega)) (bg_cwV 1 hts tw_ml_M_72 tw_im_M_passing tw_se_M_passing tw_in_M tw_co_M_passing rfl rfl th_M_passing ⟨Nat.le_of_ble_eq_true rfl, Nat.le_of_ble_eq_true rfl⟩) hK hP rfl hl.1 rfl (by decide) dd_M_lets_16 ⟨Nat.zero_le _, Nat.zero_le _⟩ ?_
      refine lv_aload_n hx hb dd_M_lets_19 rfl (lv_at hl 0 rfl) ?_
      refine va_get (D := D) (ci := 4) (v := .ref (ra 3)) (C := rn_M) (T := ft_M) (N := 19) hx hb hts tw_fs_M hown hK hP 0 rfl rfl 3 (by decide) (hts _ tw_fl_M_17) (fun _ h9 => h9) rfl dd_M_lets_20 ?_
      refine lv_iload_n hx hb dd_M_lets_23 rfl (lv_at hl 1 rfl) ?_
      refine bq_iald hx hb hK hP 2 1 rfl rfl hx2 (by decide) dd_M_lets_24 ?_
      refine bq_lt (tgt := 30) hx hb (Nat.lt_of_le_of_lt (Nat.le_trans (sp_c_le _ _) hB_6) (by decide)) (Nat.lt_of_le_of_lt (hB_3 x) (by decide)) dd_M_lets_25 rfl (fun h25 => ?_) (fun h25 => ?_)
      · refine lv_aload_n hx hb dd_M_lets_30 rfl (lv_at hl 0 rfl) ?_
        refine lv_iload_n hx hb dd_M_lets_31 rfl (lv_at hl 1 rfl) ?_
        refine rf_calli (As := [.int (nI x)]) (rest := []) (v := bd_b (sp_b N B x)) ⟨hx, hb, hml, hown, hts⟩ (rc_barrierRuns l D ra ca N O Z B hB x (by omega)) (bg_cwV 1 hts tw_ml_M_76 tw_im_M_barrierRuns tw_se_M_barrierRuns tw_in_M tw_co_M_barrierRuns rfl rfl th_M_barrierRuns ⟨Nat.le_of_ble_eq_true rfl, Nat.le_of_ble_eq_true rfl⟩) hK hP rfl hl.1 rfl (by decide) dd_M_lets_32 ⟨Nat.zero_le _, Nat.zero_le _⟩ ?_
        refine bq_zeq (tgt := 40) hx hb dd_M_lets_35 rfl (fun h35 => ?_) (fun h35 => ?_)
        · refine lv_iload_n hx hb dd_M_lets_40 rfl (lv_at hl 1 rfl) ?_
          refine lv_aload_n hx hb dd_M_lets_41 rfl (lv_at hl 0 rfl) ?_
          refine va_get (D := D) (ci := 4) (v := .ref (ra 7)) (C := rn_M) (T := ft_M) (N := 19) hx hb hts tw_fs_M hown hK hP 0 rfl rfl 7 (by decide) (hts _ tw_fl_M_26) (fun _ h9 => h9) rfl dd_M_lets_42 ?_
          refine lv_iload_n hx hb dd_M_lets_45 rfl (lv_at hl 2 rfl) ?_
          refine bq_iald hx hb hK hP 5 4 rfl rfl ht2 (by decide) dd_M_lets_46 ?_
          refine bq_ne (tgt := 54) hx hb (by omega) (Nat.lt_trans (hB_7 t) (by decide)) dd_M_lets_47 rfl (fun h47 => ?_) (fun h47 => ?_)
          · refine lv_aload_n hx hb dd_M_lets_54 rfl (lv_at hl 0 rfl) ?_
            refine lv_iload_n hx hb dd_M_lets_55 rfl (lv_at hl 1 rfl) ?_
            refine rf_calli (As := [.int (nI x)]) (rest := []) (v := bd_o (sp_o N x (N 6 0))) ⟨hx, hb, hml, hown, hts⟩ (rc_oldest l D ra ca N O Z B hB x (by omega)) (bg_cwV 1 hts tw_ml_M_79 tw_im_M_oldest tw_se_M_oldest tw_in_M tw_co_M_oldest rfl rfl th_M_oldest ⟨Nat.le_of_ble_eq_true rfl, Nat.le_of_ble_eq_true rfl⟩) hK hP rfl hl.1 rfl (by decide) dd_M_lets_56 ⟨Nat.zero_le _, Nat.zero_le _⟩ ?_
            refine lv_istore_n hx hb dd_M_lets_59 rfl hl (by decide) rfl (fun ls hl => ?_)
            have hl : lv_has ls 4 [(3, .int (bd_o (sp_o N x (N 6 0)))), (0, .ref (ra 0)), (1, .int (nI x)), (2, .int (nI t))] := hl
            refine lv_iload_n hx hb dd_M_lets_60 rfl (lv_at hl 0 rfl) ?_
            refine bq_olt (tgt := 73) hx hb (fun k hk => by have h9 := (sp_o_some hk).1; omega) dd_M_lets_61 rfl (fun h61 => ?_) (fun h61 => ?_)
            · refine lv_iconst (v := bd_b true) hx hb dd_M_lets_73 (by decide) ?_
              refine lv_goto (tgt := 78) hx hb dd_M_lets_74 rfl ?_
              exact W.zret (ty := .boolean) hx hb hr (bd_b_nar _) (fun tt htt hWW => ⟨_, rfl, (by simp [sp_t, sp_ff, h2, Nat.not_lt.mpr h2, h11, h25, Nat.not_le.mpr h25, h35, h47, h61]), htt⟩) (fun _ h => by cases h) dd_M_lets_78
            · obtain ⟨b, hb9⟩ := bd_ne h61
              have hbt := (sp_o_some hb9).1
              have hl : lv_has ls 4 [(3, .int (nI b)), (0, .ref (ra 0)), (1, .int (nI x)), (2, .int (nI t))] := by rw [hb9] at hl; exact hl
              refine lv_aload_n hx hb dd_M_lets_64 rfl (lv_at hl 1 rfl) ?_
              refine va_get (D := D) (ci := 4) (v := .ref (ra 14)) (C := rn_M) (T := ft_M) (N := 19) hx hb hts tw_fs_M hown hK hP 0 rfl rfl 14 (by decide) (hts _ tw_fl_M_48) (fun _ h9 => h9) rfl dd_M_lets_65 ?_
              refine lv_iload_n hx hb dd_M_lets_68 rfl (lv_at hl 0 rfl) ?_
              refine bq_zald hx hb hK hP 12 11 rfl rfl (by omega) (by decide) dd_M_lets_69 ?_
              refine bq_zne (tgt := 77) hx hb dd_M_lets_70 rfl (fun h70 => ?_) (fun h70 => ?_)
              · refine lv_iconst (v := bd_b false) hx hb dd_M_lets_77 (by decide) ?_
                exact W.zret (ty := .boolean) hx hb hr (bd_b_nar _) (fun tt htt hWW => ⟨_, rfl, (by simp [sp_t, sp_ff, h2, Nat.not_lt.mpr h2, h11, h25, Nat.not_le.mpr h25, h35, h47, hb9, h70]), htt⟩) (fun _ h => by cases h) dd_M_lets_78
              · refine lv_iconst (v := bd_b true) hx hb dd_M_lets_73 (by decide) ?_
                refine lv_goto (tgt := 78) hx hb dd_M_lets_74 rfl ?_
                exact W.zret (ty := .boolean) hx hb hr (bd_b_nar _) (fun tt htt hWW => ⟨_, rfl, (by simp [sp_t, sp_ff, h2, Nat.not_lt.mpr h2, h11, h25, Nat.not_le.mpr h25, h35, h47, hb9, h70]), htt⟩) (fun _ h => by cases h) dd_M_lets_78
          · refine lv_iconst (v := bd_o none) hx hb dd_M_lets_50 (by decide) ?_
            refine lv_goto (tgt := 59) hx hb dd_M_lets_51 rfl ?_
            refine lv_istore_n hx hb dd_M_lets_59 rfl hl (by decide) rfl (fun ls hl => ?_)
            have hl : lv_has ls 4 [(3, .int (bd_o none)), (0, .ref (ra 0)), (1, .int (nI x)), (2, .int (nI t))] := hl
            refine lv_iload_n hx hb dd_M_lets_60 rfl (lv_at hl 0 rfl) ?_
            refine bq_olt (tgt := 73) hx hb (fun k hk => by cases hk) dd_M_lets_61 rfl (fun h61 => ?_) (fun h61 => ?_)
            · refine lv_iconst (v := bd_b true) hx hb dd_M_lets_73 (by decide) ?_
              refine lv_goto (tgt := 78) hx hb dd_M_lets_74 rfl ?_
              exact W.zret (ty := .boolean) hx hb hr (bd_b_nar _) (fun tt htt hWW => ⟨_, rfl, (by simp [sp_t, sp_ff, h2, Nat.not_lt.mpr h2, h11, h25, Nat.not_le.mpr h25, h35, ← h47, h61]), htt⟩) (fun _ h => by cases h) dd_M_lets_78
            · exact absurd rfl h61
        · refine lv_iconst (v := bd_b false) hx hb dd_M_lets_38 (by decide) ?_
          exact W.zret (ty := .boolean) hx hb hr (bd_b_nar _) (fun tt htt hWW => ⟨_, rfl, (by simp [sp_t, sp_ff, h2, Nat.not_lt.mpr h2, h11, h25, Nat.not_le.mpr h25, h35]), htt⟩) (fun _ h => by cases h) dd_M_lets_39
      · refine lv_iconst (v := bd_b false) hx hb dd_M_lets_28 (by decide) ?_
        exact W.zret (ty := .boolean) hx hb hr (bd_b_nar _) (fun tt htt hWW => ⟨_, rfl, (by simp [sp_t, sp_ff, h2, Nat.not_lt.mpr h2, h11, h25, Nat.not_lt.mpr h25]), htt⟩) (fun _ h => by cases h) dd_M_lets_29

set_option maxHeartbeats 4000000 in
set_option maxRecDepth 100000 in
theorem rc_mayStart (l : Launch) (D : va_G) (ra : Nat → Nat) (ca : Nat → ClassId) (N : sp_N) (O : sp_O) (Z : sp_Z) (B : sp_B) (hB : sp_Bd N O) (t : Nat) (ht2 : t < 160) : Met l my_M_mayStart (Cond.code my_M_mayStart cd_M_mayStart 3 (some .boolean) :: bg_tbl) ({ frames := 3, cells := 0, slots := 0, locals := 70 }) (va_Pc [.ref (ra 0), .int (nI t)] (rf_U D ra ca N O Z B)) (vp_Si (fun r => r = bd_b (sp_m N O B t))) 0 0 (fun _ => False) := by
  refine Met.ofW (cc := cd_M_mayStart) (maxL := 3) (ret := (some .boolean)) (by decide) rfl ?_
  intro p e s m args below meth c s₁ BB hml hv
  obtain ⟨rfl, hP, hK⟩ := hv
  have hx := BB.exec
  have hb := BB.bytes
  have hr := BB.returns
  have hts : ∀ w ∈ bg_tbl, w.before ([.ref (ra 0), .int (nI t)] : List Value).toArray s = true := fun w h => atoms_spec (ws := (Cond.code my_M_mayStart cd_M_mayStart 3 (some .boolean) :: bg_tbl)) BB.pre w (List.mem_cons_of_mem _ h)
  have hown : s.vm.findClass rn_M = some m.cls := findClass_of_methodNamed BB.named
  have hlocks := BB.notSynchronized
  obtain ⟨hB_0, hB_1, hB_2, hB_3, hB_4, hB_5, hB_6, hB_7, hB_8, hB_9, hB_10, hB_11, hB_12, hB_17⟩ := id hB
  have hl := lv_entry ([.ref (ra 0), .int (nI t)]) (n := 3) (Nat.le_of_ble_eq_true rfl)
  rw [lg_entry_eq]
  generalize (lg_sl ([.ref (ra 0), .int (nI t)]) ++ List.replicate (3 - (lg_sl ([.ref (ra 0), .int (nI t)])).length) Slot.unset).toArray = ls at hl ⊢
  have hl : lv_has ls 3 [(0, .ref (ra 0)), (1, .int (nI t))] := hl
  have lp : ∀ (n : Nat) (x : Nat) (ls : Array Slot), (n + x = N 1 0) → (sp_a (fun x => sp_l N (N 7 t) x && !sp_t N B x t) x = false) → (sp_m N O B t = !(sp_a (fun x => sp_l N (N 7 t) x && !sp_t N B x t) (N 1 0))) →  lv_has ls 3 [(0, .ref (ra 0)), (1, .int (nI t)), (2, .int (nI x))] → W p l e (headSpec (Cond.code my_M_mayStart cd_M_mayStart 3 (some .boolean) :: bg_tbl) ({ frames := 3, cells := 0, slots := 0, locals := 70 })).room s m ([.ref (ra 0), .int (nI t)] : List Value).toArray below meth c s.heap [] 0 0 (MQ below (vp_Si (fun r => r = bd_b (sp_m N O B t))) ([.ref (ra 0), .int (nI t)] : List Value).toArray s 0 0 (fun _ => False)) (F0 m 83 ls []) := by
    intro n
    induction n with
    | zero =>
      intro x ls hk hn he hl
      refine lv_iload_n hx hb dd_M_mayStart_83 rfl (lv_at hl 2 rfl) ?_
      refine lv_aload_n hx hb dd_M_mayStart_84 rfl (lv_at hl 0 rfl) ?_
      refine va_get (D := D) (ci := 4) (v := .int (nI (N 1 0))) (C := rn_M) (T := ft_M) (N := 19) hx hb hts tw_fs_M hown hK hP 0 rfl rfl 1 (by decide) (hts _ tw_fl_M_7) (fun _ h9 => h9) rfl dd_M_mayStart_85 ?_
      refine bq_ge (tgt := 122) hx hb (by omega) (Nat.lt_of_le_of_lt hB_1 (by decide)) dd_M_mayStart_88 rfl (fun h88 => ?_) (fun h88 => ?_)
      · refine lv_iconst (v := bd_b true) hx hb dd_M_mayStart_122 (by decide) ?_
        exact W.zret (ty := .boolean) hx hb hr (bd_b_nar _) (fun tt htt hWW => ⟨_, rfl, (by rw [he, ← show x = N 1 0 by omega, hn]; rfl), htt⟩) (fun _ h => by cases h) dd_M_mayStart_123
      · exact absurd h88 (by omega)
    | succ n ih =>
      intro x ls hk hn he hl
      refine lv_iload_n hx hb dd_M_mayStart_83 rfl (lv_at hl 2 rfl) ?_
      refine lv_aload_n hx hb dd_M_mayStart_84 rfl (lv_at hl 0 rfl) ?_
      refine va_get (D := D) (ci := 4) (v := .int (nI (N 1 0))) (C := rn_M) (T := ft_M) (N := 19) hx hb hts tw_fs_M hown hK hP 0 rfl rfl 1 (by decide) (hts _ tw_fl_M_7) (fun _ h9 => h9) rfl dd_M_mayStart_85 ?_
      refine bq_ge (tgt := 122) hx hb (by omega) (Nat.lt_of_le_of_lt hB_1 (by decide)) dd_M_mayStart_88 rfl (fun h88 => ?_) (fun h88 => ?_)
      · exact absurd h88 (by omega)
      · refine lv_aload_n hx hb dd_M_mayStart_91 rfl (lv_at hl 0 rfl) ?_
        refine lv_aload_n hx hb dd_M_mayStart_92 rfl (lv_at hl 0 rfl) ?_
        refine va_get (D := D) (ci := 4) (v := .ref (ra 7)) (C := rn_M) (T := ft_M) (N := 19) hx hb hts tw_fs_M hown hK hP 0 rfl rfl 7 (by decide) (hts _ tw_fl_M_26) (fun _ h9 => h9) rfl dd_M_mayStart_93 ?_
        refine lv_iload_n hx hb dd_M_mayStart_96 rfl (lv_at hl 1 rfl) ?_
        refine bq_iald hx hb hK hP 5 4 rfl rfl ht2 (by decide) dd_M_mayStart_97 ?_
        refine lv_iload_n hx hb dd_M_mayStart_98 rfl (lv_at hl 2 rfl) ?_
        refine rf_calli (As := [.int (nI (N 7 t)), .int (nI x)]) (rest := []) (v := bd_b (sp_l N (N 7 t) x)) ⟨hx, hb, hml, hown, hts⟩ (rc_leads l D ra ca N O Z B hB (N 7 t) x (hB_7 t) (by omega)) (bg_cwV 2 hts tw_ml_M_64 tw_im_M_leads tw_se_M_leads tw_in_M tw_co_M_leads rfl rfl th_M_leads ⟨Nat.le_of_ble_eq_true rfl, Nat.le_of_ble_eq_true rfl⟩) hK hP rfl hl.1 rfl (by decide) dd_M_mayStart_99 ⟨Nat.zero_le _, Nat.zero_le _⟩ ?_
        refine bq_zeq (tgt := 116) hx hb dd_M_mayStart_102 rfl (fun h102 => ?_) (fun h102 => ?_)
        · refine lv_iinc (k := 2) (v := nI (x + 1)) hx hb dd_M_mayStart_116 hl rfl (nI_1 _) (by decide) rfl (fun ls hl => ?_)
          have hl : lv_has ls 3 [(2, .int (nI (x + 1))), (0, .ref (ra 0)), (1, .int (nI t))] := hl
          refine lv_goto (tgt := 83) hx hb dd_M_mayStart_119 rfl ?_
          exact ih (x + 1) ls (by omega) (by simp [sp_a, hn, h88, Nat.not_le.mpr h88, h102]) he (lv_sub hl [1, 2, 0] rfl)
        · refine lv_aload_n hx hb dd_M_mayStart_105 rfl (lv_at hl 0 rfl) ?_
          refine lv_iload_n hx hb dd_M_mayStart_106 rfl (lv_at hl 2 rfl) ?_
          refine lv_iload_n hx hb dd_M_mayStart_107 rfl (lv_at hl 1 rfl) ?_
          refine rf_calli (As := [.int (nI x), .int (nI t)]) (rest := []) (v := bd_b (sp_t N B x t)) ⟨hx, hb, hml, hown, hts⟩ (rc_lets l D ra ca N O Z B hB x t (by omega) ht2) (bg_cwV 2 hts tw_ml_M_86 tw_im_M_lets tw_se_M_lets tw_in_M tw_co_M_lets rfl rfl th_M_lets ⟨Nat.le_of_ble_eq_true rfl, Nat.le_of_ble_eq_true rfl⟩) hK hP rfl hl.1 rfl (by decide) dd_M_mayStart_108 ⟨Nat.zero_le _, Nat.zero_le _⟩ ?_
          refine bq_zne (tgt := 116) hx hb dd_M_mayStart_111 rfl (fun h111 => ?_) (fun h111 => ?_)
          · refine lv_iinc (k := 2) (v := nI (x + 1)) hx hb dd_M_mayStart_116 hl rfl (nI_1 _) (by decide) rfl (fun ls hl => ?_)
            have hl : lv_has ls 3 [(2, .int (nI (x + 1))), (0, .ref (ra 0)), (1, .int (nI t))] := hl
            refine lv_goto (tgt := 83) hx hb dd_M_mayStart_119 rfl ?_
            exact ih (x + 1) ls (by omega) (by simp [sp_a, hn, h88, Nat.not_le.mpr h88, h102, h111]) he (lv_sub hl [1, 2, 0] rfl)
          · refine lv_iconst (v := bd_b false) hx hb dd_M_mayStart_114 (by decide) ?_
            exact W.zret (ty := .boolean) hx hb hr (bd_b_nar _) (fun tt htt hWW => ⟨_, rfl, (by rw [he, sp_a_iff.mpr ⟨x, by omega, by simp [h88, Nat.not_le.mpr h88, h102, h111]⟩]; rfl), htt⟩) (fun _ h => by cases h) dd_M_mayStart_115
  refine lv_aload_n hx hb dd_M_mayStart_0 rfl (lv_at hl 0 rfl) ?_
  refine va_get (D := D) (ci := 4) (v := .ref (ra 8)) (C := rn_M) (T := ft_M) (N := 19) hx hb hts tw_fs_M hown hK hP 0 rfl rfl 8 (by decide) (hts _ tw_fl_M_29) (fun _ h9 => h9) rfl dd_M_mayStart_1 ?_
  refine lv_iload_n hx hb dd_M_mayStart_4 rfl (lv_at hl 1 rfl) ?_
  refine bq_iald hx hb hK hP 6 5 rfl rfl ht2 (by decide) dd_M_mayStart_5 ?_
  refine lv_iconst (v := nI 2) hx hb dd_M_mayStart_6 (by decide) ?_
  refine bq_ne (tgt := 24) hx hb (Nat.lt_trans (hB_8 t) (by decide)) (by decide) dd_M_mayStart_7 rfl (fun h7 => ?_) (fun h7 => ?_)
  · refine lv_iconst (v := bd_b false) hx hb dd_M_mayStart_24 (by decide) ?_
    exact W.zret (ty := .boolean) hx hb hr (bd_b_nar _) (fun tt htt hWW => ⟨_, rfl, (by simp [sp_m, h7]), htt⟩) (fun _ h => by cases h) dd_M_mayStart_25
  · refine lv_aload_n hx hb dd_M_mayStart_10 rfl (lv_at hl 0 rfl) ?_
    refine lv_aload_n hx hb dd_M_mayStart_11 rfl (lv_at hl 0 rfl) ?_
    refine va_get (D := D) (ci := 4) (v := .ref (ra 7)) (C := rn_M) (T := ft_M) (N := 19) hx hb hts tw_fs_M hown hK hP 0 rfl rfl 7 (by decide) (hts _ tw_fl_M_26) (fun _ h9 => h9) rfl dd_M_mayStart_12 ?_
    refine lv_iload_n hx hb dd_M_mayStart_15 rfl (lv_at hl 1 rfl) ?_
    refine bq_iald hx hb hK hP 5 4 rfl rfl ht2 (by decide) dd_M_mayStart_16 ?_
    refine rf_calli (As := [.int (nI (N 7 t))]) (rest := []) (v := bd_o (sp_o N (N 7 t) (N 6 0))) ⟨hx, hb, hml, hown, hts⟩ (rc_oldest l D ra ca N O Z B hB (N 7 t) (Nat.lt_trans (hB_7 t) (by decide))) (bg_cwV 1 hts tw_ml_M_79 tw_im_M_oldest tw_se_M_oldest tw_in_M tw_co_M_oldest rfl rfl th_M_oldest ⟨Nat.le_of_ble_eq_true rfl, Nat.le_of_ble_eq_true rfl⟩) hK hP rfl hl.1 rfl (by decide) dd_M_mayStart_17 ⟨Nat.zero_le _, Nat.zero_le _⟩ ?_
    refine lv_iload_n hx hb dd_M_mayStart_20 rfl (lv_at hl 1 rfl) ?_
    refine bq_oeq (tgt := 26) hx hb (fun k hk => by have h9 := (sp_o_some hk).1; omega) (by omega) dd_M_mayStart_21 rfl (fun h21 => ?_) (fun h21 => ?_)
    · refine lv_aload_n hx hb dd_M_mayStart_26 rfl (lv_at hl 0 rfl) ?_
      refine va_get (D := D) (ci := 4) (v := .ref (ra 14)) (C := rn_M) (T := ft_M) (N := 19) hx hb hts tw_fs_M hown hK hP 0 rfl rfl 14 (by decide) (hts _ tw_fl_M_48) (fun _ h9 => h9) rfl dd_M_mayStart_27 ?_
      refine lv_iload_n hx hb dd_M_mayStart_30 rfl (lv_at hl 1 rfl) ?_
      refine bq_zald hx hb hK hP 12 11 rfl rfl ht2 (by decide) dd_M_mayStart_31 ?_
      refine bq_zeq (tgt := 50) hx hb dd_M_mayStart_32 rfl (fun h32 => ?_) (fun h32 => ?_)
      · refine lv_aload_n hx hb dd_M_mayStart_50 rfl (lv_at hl 0 rfl) ?_
        refine va_get (D := D) (ci := 4) (v := .ref (ra 15)) (C := rn_M) (T := ft_M) (N := 19) hx hb hts tw_fs_M hown hK hP 0 rfl rfl 15 (by decide) (hts _ tw_fl_M_52) (fun _ h9 => h9) rfl dd_M_mayStart_51 ?_
        refine lv_iload_n hx hb dd_M_mayStart_54 rfl (lv_at hl 1 rfl) ?_
        refine bq_zald hx hb hK hP 13 12 rfl rfl ht2 (by decide) dd_M_mayStart_55 ?_
        refine bq_zne (tgt := 81) hx hb dd_M_mayStart_56 rfl (fun h56 => ?_) (fun h56 => ?_)
        · refine lv_iconst (v := nI 0) hx hb dd_M_mayStart_81 (by decide) ?_
          refine lv_istore_n hx hb dd_M_mayStart_82 rfl hl (by decide) rfl (fun ls hl => ?_)
          have hl : lv_has ls 3 [(2, .int (nI 0)), (0, .ref (ra 0)), (1, .int (nI t))] := hl
          exact lp (N 1 0) 0 ls (by omega) rfl (by simp [sp_m, h7, h21, h32, h56]) (lv_sub hl [1, 2, 0] rfl)
        · refine lv_aload_n hx hb dd_M_mayStart_59 rfl (lv_at hl 0 rfl) ?_
          refine va_get (D := D) (ci := 4) (v := .ref (ra 9)) (C := rn_M) (T := ft_M) (N := 19) hx hb hts tw_fs_M hown hK hP 0 rfl rfl 9 (by decide) (hts _ tw_fl_M_32) (fun _ h9 => h9) rfl dd_M_mayStart_60 ?_
          refine lv_iload_n hx hb dd_M_mayStart_63 rfl (lv_at hl 1 rfl) ?_
          refine bq_iald hx hb hK hP 7 6 rfl rfl ht2 (by decide) dd_M_mayStart_64 ?_
          refine bq_oge (tgt := 81) hx hb (fun k hk => Nat.lt_trans (hB_9 _ k hk) (by decide)) dd_M_mayStart_65 rfl (fun h65 => ?_) (fun h65 => ?_)
          · refine lv_iconst (v := nI 0) hx hb dd_M_mayStart_81 (by decide) ?_
            refine lv_istore_n hx hb dd_M_mayStart_82 rfl hl (by decide) rfl (fun ls hl => ?_)
            have hl : lv_has ls 3 [(2, .int (nI 0)), (0, .ref (ra 0)), (1, .int (nI t))] := hl
            exact lp (N 1 0) 0 ls (by omega) rfl (by simp [sp_m, h7, h21, h32, h56, h65]) (lv_sub hl [1, 2, 0] rfl)
          · refine lv_aload_n hx hb dd_M_mayStart_68 rfl (lv_at hl 0 rfl) ?_
            refine rf_calli (As := []) (rest := []) (v := nI (sp_w N O)) ⟨hx, hb, hml, hown, hts⟩ (rc_workersInUse l D ra ca N O Z B hB) (bg_cwV 0 hts tw_ml_M_82 tw_im_M_workersInUse tw_se_M_workersInUse tw_in_M tw_co_M_workersInUse rfl rfl th_M_workersInUse ⟨Nat.le_of_ble_eq_true rfl, Nat.le_of_ble_eq_true rfl⟩) hK hP rfl hl.1 rfl (by decide) dd_M_mayStart_69 ⟨Nat.zero_le _, Nat.zero_le _⟩ ?_
            refine lv_aload_n hx hb dd_M_mayStart_72 rfl (lv_at hl 0 rfl) ?_
            refine va_get (D := D) (ci := 4) (v := .int (nI (N 0 0))) (C := rn_M) (T := ft_M) (N := 19) hx hb hts tw_fs_M hown hK hP 0 rfl rfl 0 (by decide) (hts _ tw_fl_M_58) (fun _ h9 => h9) rfl dd_M_mayStart_73 ?_
            refine bq_lt (tgt := 81) hx hb (Nat.lt_of_le_of_lt (Nat.le_trans (sp_c_le _ _) hB_6) (by decide)) (Nat.lt_of_le_of_lt hB_0 (by decide)) dd_M_mayStart_76 rfl (fun h76 => ?_) (fun h76 => ?_)
            · refine lv_iconst (v := nI 0) hx hb dd_M_mayStart_81 (by decide) ?_
              refine lv_istore_n hx hb dd_M_mayStart_82 rfl hl (by decide) rfl (fun ls hl => ?_)
              have hl : lv_has ls 3 [(2, .int (nI 0)), (0, .ref (ra 0)), (1, .int (nI t))] := hl
              exact lp (N 1 0) 0 ls (by omega) rfl (by simp [sp_m, h7, h21, h32, h56, h65, h76, Nat.not_le.mpr h76]) (lv_sub hl [1, 2, 0] rfl)
            · refine lv_iconst (v := bd_b false) hx hb dd_M_mayStart_79 (by decide) ?_
              exact W.zret (ty := .boolean) hx hb hr (bd_b_nar _) (fun tt htt hWW => ⟨_, rfl, (by simp [sp_m, h7, h21, h32, h56, h65, h76, Nat.not_lt.mpr h76]), htt⟩) (fun _ h => by cases h) dd_M_mayStart_80
      · refine lv_aload_n hx hb dd_M_mayStart_35 rfl (lv_at hl 0 rfl) ?_
        refine lv_aload_n hx hb dd_M_mayStart_36 rfl (lv_at hl 0 rfl) ?_
        refine va_get (D := D) (ci := 4) (v := .ref (ra 7)) (C := rn_M) (T := ft_M) (N := 19) hx hb hts tw_fs_M hown hK hP 0 rfl rfl 7 (by decide) (hts _ tw_fl_M_26) (fun _ h9 => h9) rfl dd_M_mayStart_37 ?_
        refine lv_iload_n hx hb dd_M_mayStart_40 rfl (lv_at hl 1 rfl) ?_
        refine bq_iald hx hb hK hP 5 4 rfl rfl ht2 (by decide) dd_M_mayStart_41 ?_
        refine rf_calli (As := [.int (nI (N 7 t))]) (rest := []) (v := nI (sp_p N (N 7 t))) ⟨hx, hb, hml, hown, hts⟩ (rc_passing l D ra ca N O Z B hB (N 7 t) (Nat.lt_trans (hB_7 t) (by decide))) (bg_cwV 1 hts tw_ml_M_72 tw_im_M_passing tw_se_M_passing tw_in_M tw_co_M_passing rfl rfl th_M_passing ⟨Nat.le_of_ble_eq_true rfl, Nat.le_of_ble_eq_true rfl⟩) hK hP rfl hl.1 rfl (by decide) dd_M_mayStart_42 ⟨Nat.zero_le _, Nat.zero_le _⟩ ?_
        refine bq_nle (tgt := 50) hx hb (Nat.lt_of_le_of_lt (Nat.le_trans (sp_c_le _ _) hB_6) (by decide)) dd_M_mayStart_45 rfl (fun h45 => ?_) (fun h45 => ?_)
        · refine lv_aload_n hx hb dd_M_mayStart_50 rfl (lv_at hl 0 rfl) ?_
          refine va_get (D := D) (ci := 4) (v := .ref (ra 15)) (C := rn_M) (T := ft_M) (N := 19) hx hb hts tw_fs_M hown hK hP 0 rfl rfl 15 (by decide) (hts _ tw_fl_M_52) (fun _ h9 => h9) rfl dd_M_mayStart_51 ?_
          refine lv_iload_n hx hb dd_M_mayStart_54 rfl (lv_at hl 1 rfl) ?_
          refine bq_zald hx hb hK hP 13 12 rfl rfl ht2 (by decide) dd_M_mayStart_55 ?_
          refine bq_zne (tgt := 81) hx hb dd_M_mayStart_56 rfl (fun h56 => ?_) (fun h56 => ?_)
          · refine lv_iconst (v := nI 0) hx hb dd_M_mayStart_81 (by decide) ?_
            refine lv_istore_n hx hb dd_M_mayStart_82 rfl hl (by decide) rfl (fun ls hl => ?_)
            have hl : lv_has ls 3 [(2, .int (nI 0)), (0, .ref (ra 0)), (1, .int (nI t))] := hl
            exact lp (N 1 0) 0 ls (by omega) rfl (by simp [sp_m, h7, h21, h32, h45, h56]) (lv_sub hl [1, 2, 0] rfl)
          · refine lv_aload_n hx hb dd_M_mayStart_59 rfl (lv_at hl 0 rfl) ?_
            refine va_get (D := D) (ci := 4) (v := .ref (ra 9)) (C := rn_M) (T := ft_M) (N := 19) hx hb hts tw_fs_M hown hK hP 0 rfl rfl 9 (by decide) (hts _ tw_fl_M_32) (fun _ h9 => h9) rfl dd_M_mayStart_60 ?_
            refine lv_iload_n hx hb dd_M_mayStart_63 rfl (lv_at hl 1 rfl) ?_
            refine bq_iald hx hb hK hP 7 6 rfl rfl ht2 (by decide) dd_M_mayStart_64 ?_
            refine bq_oge (tgt := 81) hx hb (fun k hk => Nat.lt_trans (hB_9 _ k hk) (by decide)) dd_M_mayStart_65 rfl (fun h65 => ?_) (fun h65 => ?_)
            · refine lv_iconst (v := nI 0) hx hb dd_M_mayStart_81 (by decide) ?_
              refine lv_istore_n hx hb dd_M_mayStart_82 rfl hl (by decide) rfl (fun ls hl => ?_)
              have hl : lv_has ls 3 [(2, .int (nI 0)), (0, .ref (ra 0)), (1, .int (nI t))] := hl
              exact lp (N 1 0) 0 ls (by omega) rfl (by simp [sp_m, h7, h21, h32, h45, h56, h65]) (lv_sub hl [1, 2, 0] rfl)
            · refine lv_aload_n hx hb dd_M_mayStart_68 rfl (lv_at hl 0 rfl) ?_
              refine rf_calli (As := []) (rest := []) (v := nI (sp_w N O)) ⟨hx, hb, hml, hown, hts⟩ (rc_workersInUse l D ra ca N O Z B hB) (bg_cwV 0 hts tw_ml_M_82 tw_im_M_workersInUse tw_se_M_workersInUse tw_in_M tw_co_M_workersInUse rfl rfl th_M_workersInUse ⟨Nat.le_of_ble_eq_true rfl, Nat.le_of_ble_eq_true rfl⟩) hK hP rfl hl.1 rfl (by decide) dd_M_mayStart_69 ⟨Nat.zero_le _, Nat.zero_le _⟩ ?_
              refine lv_aload_n hx hb dd_M_mayStart_72 rfl (lv_at hl 0 rfl) ?_
              refine va_get (D := D) (ci := 4) (v := .int (nI (N 0 0))) (C := rn_M) (T := ft_M) (N := 19) hx hb hts tw_fs_M hown hK hP 0 rfl rfl 0 (by decide) (hts _ tw_fl_M_58) (fun _ h9 => h9) rfl dd_M_mayStart_73 ?_
              refine bq_lt (tgt := 81) hx hb (Nat.lt_of_le_of_lt (Nat.le_trans (sp_c_le _ _) hB_6) (by decide)) (Nat.lt_of_le_of_lt hB_0 (by decide)) dd_M_mayStart_76 rfl (fun h76 => ?_) (fun h76 => ?_)
              · refine lv_iconst (v := nI 0) hx hb dd_M_mayStart_81 (by decide) ?_
                refine lv_istore_n hx hb dd_M_mayStart_82 rfl hl (by decide) rfl (fun ls hl => ?_)
                have hl : lv_has ls 3 [(2, .int (nI 0)), (0, .ref (ra 0)), (1, .int (nI t))] := hl
                exact lp (N 1 0) 0 ls (by omega) rfl (by simp [sp_m, h7, h21, h32, h45, h56, h65, h76, Nat.not_le.mpr h76]) (lv_sub hl [1, 2, 0] rfl)
              · refine lv_iconst (v := bd_b false) hx hb dd_M_mayStart_79 (by decide) ?_
                exact W.zret (ty := .boolean) hx hb hr (bd_b_nar _) (fun tt htt hWW => ⟨_, rfl, (by simp [sp_m, h7, h21, h32, h45, h56, h65, h76, Nat.not_lt.mpr h76]), htt⟩) (fun _ h => by cases h) dd_M_mayStart_80
        · refine lv_iconst (v := bd_b false) hx hb dd_M_mayStart_48 (by decide) ?_
          exact W.zret (ty := .boolean) hx hb hr (bd_b_nar _) (fun tt htt hWW => ⟨_, rfl, (by simp [sp_m, h7, h21, h32, h45, Nat.not_le.mpr h45]), htt⟩) (fun _ h => by cases h) dd_M_mayStart_49
    · refine lv_iconst (v := bd_b false) hx hb dd_M_mayStart_24 (by decide) ?_
      exact W.zret (ty := .boolean) hx hb hr (bd_b_nar _) (fun tt htt hWW => ⟨_, rfl, (by simp [sp_m, h7, h21]), htt⟩) (fun _ h => by cases h) dd_M_mayStart_25

set_option maxHeartbeats 4000000 in
set_option maxRecDepth 100000 in
theorem rc_countOf (l : Launch) (D : va_G) (ra : Nat → Nat) (ca : Nat → ClassId) (N : sp_N) (O : sp_O) (Z : sp_Z) (B : sp_B) (hB : sp_Bd N O) (g : Nat) (hg : g < 4) : Met l my_M_countOf (Cond.code my_M_countOf cd_M_countOf 4 (some .int) :: bg_tbl) ({ frames := 0, cells := 0, slots := 0, locals := 0 }) (va_Pc [.ref (ra 0), .int (nI g)] (rf_U D ra ca N O Z B)) (vp_Si (fun r => r = nI (sp_g N O g))) 0 0 (fun _ => False) := by
  refine Met.ofW (cc := cd_M_countOf) (maxL := 4) (ret := (some .int)) (by decide) rfl ?_
  intro p e s m args below meth c s₁ BB hml hv
  obtain ⟨rfl, hP, hK⟩ := hv
  have hx := BB.exec
  have hb := BB.bytes
  have hr := BB.returns
  have hts : ∀ w ∈ bg_tbl, w.before ([.ref (ra 0), .int (nI g)] : List Value).toArray s = true := fun w h => atoms_spec (ws := (Cond.code my_M_countOf cd_M_countOf 4 (some .int) :: bg_tbl)) BB.pre w (List.mem_cons_of_mem _ h)
  have hown : s.vm.findClass rn_M = some m.cls := findClass_of_methodNamed BB.named
  have hlocks := BB.notSynchronized
  obtain ⟨hB_0, hB_1, hB_2, hB_3, hB_4, hB_5, hB_6, hB_7, hB_8, hB_9, hB_10, hB_11, hB_12, hB_17⟩ := id hB
  have hl := lv_entry ([.ref (ra 0), .int (nI g)]) (n := 4) (Nat.le_of_ble_eq_true rfl)
  rw [lg_entry_eq]
  generalize (lg_sl ([.ref (ra 0), .int (nI g)]) ++ List.replicate (4 - (lg_sl ([.ref (ra 0), .int (nI g)])).length) Slot.unset).toArray = ls at hl ⊢
  have hl : lv_has ls 4 [(0, .ref (ra 0)), (1, .int (nI g))] := hl
  have lp : ∀ (n : Nat) (t : Nat) (ls : Array Slot), (n + t = N 6 0) →  lv_has ls 4 [(0, .ref (ra 0)), (1, .int (nI g)), (2, .int (nI (N 17 g + sp_c (fun t => decide (O 10 t = some g) && decide (N 8 t < 5)) t))), (3, .int (nI t))] → W p l e (headSpec (Cond.code my_M_countOf cd_M_countOf 4 (some .int) :: bg_tbl) ({ frames := 0, cells := 0, slots := 0, locals := 0 })).room s m ([.ref (ra 0), .int (nI g)] : List Value).toArray below meth c s.heap [] 0 0 (MQ below (vp_Si (fun r => r = nI (sp_g N O g))) ([.ref (ra 0), .int (nI g)] : List Value).toArray s 0 0 (fun _ => False)) (F0 m 9 ls []) := by
    intro n
    induction n with
    | zero =>
      intro t ls hk hl
      refine lv_iload_n hx hb dd_M_countOf_9 rfl (lv_at hl 3 rfl) ?_
      refine lv_aload_n hx hb dd_M_countOf_10 rfl (lv_at hl 0 rfl) ?_
      refine va_get (D := D) (ci := 4) (v := .int (nI (N 6 0))) (C := rn_M) (T := ft_M) (N := 19) hx hb hts tw_fs_M hown hK hP 0 rfl rfl 6 (by decide) (hts _ tw_fl_M_61) (fun _ h9 => h9) rfl dd_M_countOf_11 ?_
      refine bq_ge (tgt := 47) hx hb (by omega) (Nat.lt_of_le_of_lt hB_6 (by decide)) dd_M_countOf_14 rfl (fun h14 => ?_) (fun h14 => ?_)
      · refine lv_iload_n hx hb dd_M_countOf_47 rfl (lv_at hl 2 rfl) ?_
        exact W.iret hx hb hr (fun tt htt hWW => ⟨_, rfl, (by rw [show t = N 6 0 by omega]; rfl), htt⟩) (fun _ h => by cases h) dd_M_countOf_48
      · exact absurd h14 (by omega)
    | succ n ih =>
      intro t ls hk hl
      refine lv_iload_n hx hb dd_M_countOf_9 rfl (lv_at hl 3 rfl) ?_
      refine lv_aload_n hx hb dd_M_countOf_10 rfl (lv_at hl 0 rfl) ?_
      refine va_get (D := D) (ci := 4) (v := .int (nI (N 6 0))) (C := rn_M) (T := ft_M) (N := 19) hx hb hts tw_fs_M hown hK hP 0 rfl rfl 6 (by decide) (hts _ tw_fl_M_61) (fun _ h9 => h9) rfl dd_M_countOf_11 ?_
      refine bq_ge (tgt := 47) hx hb (by omega) (Nat.lt_of_le_of_lt hB_6 (by decide)) dd_M_countOf_14 rfl (fun h14 => ?_) (fun h14 => ?_)
      · exact absurd h14 (by omega)
      · refine lv_aload_n hx hb dd_M_countOf_17 rfl (lv_at hl 0 rfl) ?_
        refine va_get (D := D) (ci := 4) (v := .ref (ra 10)) (C := rn_M) (T := ft_M) (N := 19) hx hb hts tw_fs_M hown hK hP 0 rfl rfl 10 (by decide) (hts _ tw_fl_M_35) (fun _ h9 => h9) rfl dd_M_countOf_18 ?_
        refine lv_iload_n hx hb dd_M_countOf_21 rfl (lv_at hl 3 rfl) ?_
        refine bq_iald hx hb hK hP 8 7 rfl rfl (by omega) (by decide) dd_M_countOf_22 ?_
        refine lv_iload_n hx hb dd_M_countOf_23 rfl (lv_at hl 1 rfl) ?_
        refine bq_one (tgt := 41) hx hb (fun k hk => Nat.lt_trans (hB_10 _ k hk) (by decide)) (by omega) dd_M_countOf_24 rfl (fun h24 => ?_) (fun h24 => ?_)
        · refine lv_iinc (k := 3) (v := nI (t + 1)) hx hb dd_M_countOf_41 hl rfl (nI_1 _) (by decide) rfl (fun ls hl => ?_)
          have hl : lv_has ls 4 [(3, .int (nI (t + 1))), (0, .ref (ra 0)), (1, .int (nI g)), (2, .int (nI (N 17 g + sp_c (fun t => decide (O 10 t = some g) && decide (N 8 t < 5)) t)))] := hl
          refine lv_goto (tgt := 9) hx hb dd_M_countOf_44 rfl ?_
          have e9 : N 17 g + sp_c (fun t => decide (O 10 t = some g) && decide (N 8 t < 5)) (t + 1) = N 17 g + sp_c (fun t => decide (O 10 t = some g) && decide (N 8 t < 5)) t := by simp [sp_c, h14, Nat.not_le.mpr h14, h24]
          exact ih (t + 1) ls (by omega) (by rw [e9]; exact lv_sub hl [1, 2, 3, 0] rfl)
        · refine lv_aload_n hx hb dd_M_countOf_27 rfl (lv_at hl 0 rfl) ?_
          refine va_get (D := D) (ci := 4) (v := .ref (ra 8)) (C := rn_M) (T := ft_M) (N := 19) hx hb hts tw_fs_M hown hK hP 0 rfl rfl 8 (by decide) (hts _ tw_fl_M_29) (fun _ h9 => h9) rfl dd_M_countOf_28 ?_
          refine lv_iload_n hx hb dd_M_countOf_31 rfl (lv_at hl 3 rfl) ?_
          refine bq_iald hx hb hK hP 6 5 rfl rfl (by omega) (by decide) dd_M_countOf_32 ?_
          refine lv_iconst (v := nI 5) hx hb dd_M_countOf_33 (by decide) ?_
          refine bq_ge (tgt := 41) hx hb (Nat.lt_trans (hB_8 t) (by decide)) (by decide) dd_M_countOf_34 rfl (fun h34 => ?_) (fun h34 => ?_)
          · refine lv_iinc (k := 3) (v := nI (t + 1)) hx hb dd_M_countOf_41 hl rfl (nI_1 _) (by decide) rfl (fun ls hl => ?_)
            have hl : lv_has ls 4 [(3, .int (nI (t + 1))), (0, .ref (ra 0)), (1, .int (nI g)), (2, .int (nI (N 17 g + sp_c (fun t => decide (O 10 t = some g) && decide (N 8 t < 5)) t)))] := hl
            refine lv_goto (tgt := 9) hx hb dd_M_countOf_44 rfl ?_
            have e9 : N 17 g + sp_c (fun t => decide (O 10 t = some g) && decide (N 8 t < 5)) (t + 1) = N 17 g + sp_c (fun t => decide (O 10 t = some g) && decide (N 8 t < 5)) t := by simp [sp_c, h14, Nat.not_le.mpr h14, h24, h34, Nat.not_lt.mpr h34]
            exact ih (t + 1) ls (by omega) (by rw [e9]; exact lv_sub hl [1, 2, 3, 0] rfl)
          · refine lv_iload_n hx hb dd_M_countOf_37 rfl (lv_at hl 2 rfl) ?_
            refine lv_iconst (v := nI 1) hx hb dd_M_countOf_38 (by decide) ?_
            refine lv_iadd hx hb dd_M_countOf_39 ?_
            rw [nI_add]
            refine lv_istore_n hx hb dd_M_countOf_40 rfl hl (by decide) rfl (fun ls hl => ?_)
            have hl : lv_has ls 4 [(2, .int (nI ((N 17 g + sp_c (fun t => decide (O 10 t = some g) && decide (N 8 t < 5)) t) + 1))), (0, .ref (ra 0)), (1, .int (nI g)), (3, .int (nI t))] := hl
            refine lv_iinc (k := 3) (v := nI (t + 1)) hx hb dd_M_countOf_41 hl rfl (nI_1 _) (by decide) rfl (fun ls hl => ?_)
            have hl : lv_has ls 4 [(3, .int (nI (t + 1))), (2, .int (nI ((N 17 g + sp_c (fun t => decide (O 10 t = some g) && decide (N 8 t < 5)) t) + 1))), (0, .ref (ra 0)), (1, .int (nI g))] := hl
            refine lv_goto (tgt := 9) hx hb dd_M_countOf_44 rfl ?_
            have e8 : sp_c (fun t => decide (O 10 t = some g) && decide (N 8 t < 5)) (t + 1) = sp_c (fun t => decide (O 10 t = some g) && decide (N 8 t < 5)) t + 1 := by simp [sp_c, h14, Nat.not_le.mpr h14, h24, h34, Nat.not_le.mpr h34]
            have e9 : N 17 g + sp_c (fun t => decide (O 10 t = some g) && decide (N 8 t < 5)) (t + 1) = (N 17 g + sp_c (fun t => decide (O 10 t = some g) && decide (N 8 t < 5)) t) + 1 := by omega
            exact ih (t + 1) ls (by omega) (by rw [e9]; exact lv_sub hl [2, 3, 1, 0] rfl)
  refine lv_aload_n hx hb dd_M_countOf_0 rfl (lv_at hl 0 rfl) ?_
  refine va_get (D := D) (ci := 4) (v := .ref (ra 17)) (C := rn_M) (T := ft_M) (N := 19) hx hb hts tw_fs_M hown hK hP 0 rfl rfl 17 (by decide) (hts _ tw_fl_M_55) (fun _ h9 => h9) rfl dd_M_countOf_1 ?_
  refine lv_iload_n hx hb dd_M_countOf_4 rfl (lv_at hl 1 rfl) ?_
  refine bq_iald hx hb hK hP 14 13 rfl rfl hg (by decide) dd_M_countOf_5 ?_
  refine lv_istore_n hx hb dd_M_countOf_6 rfl hl (by decide) rfl (fun ls hl => ?_)
  have hl : lv_has ls 4 [(2, .int (nI (N 17 g))), (0, .ref (ra 0)), (1, .int (nI g))] := hl
  refine lv_iconst (v := nI 0) hx hb dd_M_countOf_7 (by decide) ?_
  refine lv_istore_n hx hb dd_M_countOf_8 rfl hl (by decide) rfl (fun ls hl => ?_)
  have hl : lv_has ls 4 [(3, .int (nI 0)), (2, .int (nI (N 17 g))), (0, .ref (ra 0)), (1, .int (nI g))] := hl
  exact lp (N 6 0) 0 ls (by omega) (lv_sub hl [2, 3, 1, 0] rfl)

