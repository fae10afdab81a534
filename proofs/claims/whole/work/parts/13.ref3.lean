/-! Part 13: the reference: chosen, due, queued, through, peak, count, ready, inTheWay, state. By wip/gen/gen_ref3.py. -/
theorem sp_a_s {P : Nat → Bool} {n : Nat} (h : sp_a P n = false) (hp : P n = false) : sp_a P (n + 1) = false := by
  rw [sp_a, h, hp]
  rfl
set_option maxHeartbeats 4000000 in
set_option maxRecDepth 100000 in
theorem rc_chosen (l : Launch) (D : va_G) (ra : Nat → Nat) (ca : Nat → ClassId) (N : sp_N) (O : sp_O) (Z : sp_Z) (B : sp_B) (hB : sp_Bd N O)  : Met l my_M_chosen (Cond.code my_M_chosen cd_M_chosen 5 (some .int) :: bg_tbl) ({ frames := 4, cells := 0, slots := 0, locals := 92 }) (va_Pc [.ref (ra 0)] (rf_U D ra ca N O Z B)) (vp_Si (fun r => r = bd_o (sp_h N O B (N 6 0)))) 0 0 (fun _ => False) := by
  refine Met.ofW (cc := cd_M_chosen) (maxL := 5) (ret := (some .int)) (by decide) rfl ?_
  intro p e s m args below meth c s₁ BB hml hv
  obtain ⟨rfl, hP, hK⟩ := hv
  have hx := BB.exec
  have hb := BB.bytes
  have hr := BB.returns
  have hts : ∀ w ∈ bg_tbl, w.before ([.ref (ra 0)] : List Value).toArray s = true := fun w h => atoms_spec (ws := (Cond.code my_M_chosen cd_M_chosen 5 (some .int) :: bg_tbl)) BB.pre w (List.mem_cons_of_mem _ h)
  have hown : s.vm.findClass rn_M = some m.cls := findClass_of_methodNamed BB.named
  have hlocks := BB.notSynchronized
  obtain ⟨hB_0, hB_1, hB_2, hB_3, hB_4, hB_5, hB_6, hB_7, hB_8, hB_9, hB_10, hB_11, hB_12, hB_17⟩ := id hB
  have hl := lv_entry ([.ref (ra 0)]) (n := 5) (Nat.le_of_ble_eq_true rfl)
  rw [lg_entry_eq]
  generalize (lg_sl ([.ref (ra 0)]) ++ List.replicate (5 - (lg_sl ([.ref (ra 0)])).length) Slot.unset).toArray = ls at hl ⊢
  have hl : lv_has ls 5 [(0, .ref (ra 0))] := hl
  have lp : ∀ (n : Nat) (t : Nat) (ls : Array Slot), (n + t = N 6 0) →  lv_has ls 5 [(0, .ref (ra 0)), (1, .int (bd_o (sp_h N O B t))), (2, .int (sp_rk N (sp_h N O B t))), (3, .int (nI t))] → W p l e (headSpec (Cond.code my_M_chosen cd_M_chosen 5 (some .int) :: bg_tbl) ({ frames := 4, cells := 0, slots := 0, locals := 92 })).room s m ([.ref (ra 0)] : List Value).toArray below meth c s.heap [] 0 0 (MQ below (vp_Si (fun r => r = bd_o (sp_h N O B (N 6 0)))) ([.ref (ra 0)] : List Value).toArray s 0 0 (fun _ => False)) (F0 m 6 ls []) := by
    intro n
    induction n with
    | zero =>
      intro t ls hk hl
      refine lv_iload_n hx hb dd_M_chosen_6 rfl (lv_at hl 3 rfl) ?_
      refine lv_aload_n hx hb dd_M_chosen_7 rfl (lv_at hl 0 rfl) ?_
      refine va_get (D := D) (ci := 4) (v := .int (nI (N 6 0))) (C := rn_M) (T := ft_M) (N := 19) hx hb hts tw_fs_M hown hK hP 0 rfl rfl 6 (by decide) (hts _ tw_fl_M_61) (fun _ h9 => h9) rfl dd_M_chosen_8 ?_
      refine bq_ge (tgt := 76) hx hb (by omega) (Nat.lt_of_le_of_lt hB_6 (by decide)) dd_M_chosen_11 rfl (fun h11 => ?_) (fun h11 => ?_)
      · refine lv_iload_n hx hb dd_M_chosen_76 rfl (lv_at hl 1 rfl) ?_
        exact W.iret hx hb hr (fun tt htt hWW => ⟨_, rfl, (by rw [show t = N 6 0 by omega]), htt⟩) (fun _ h => by cases h) dd_M_chosen_77
      · exact absurd h11 (by omega)
    | succ n ih =>
      intro t ls hk hl
      refine lv_iload_n hx hb dd_M_chosen_6 rfl (lv_at hl 3 rfl) ?_
      refine lv_aload_n hx hb dd_M_chosen_7 rfl (lv_at hl 0 rfl) ?_
      refine va_get (D := D) (ci := 4) (v := .int (nI (N 6 0))) (C := rn_M) (T := ft_M) (N := 19) hx hb hts tw_fs_M hown hK hP 0 rfl rfl 6 (by decide) (hts _ tw_fl_M_61) (fun _ h9 => h9) rfl dd_M_chosen_8 ?_
      refine bq_ge (tgt := 76) hx hb (by omega) (Nat.lt_of_le_of_lt hB_6 (by decide)) dd_M_chosen_11 rfl (fun h11 => ?_) (fun h11 => ?_)
      · exact absurd h11 (by omega)
      · refine lv_aload_n hx hb dd_M_chosen_14 rfl (lv_at hl 0 rfl) ?_
        refine lv_iload_n hx hb dd_M_chosen_15 rfl (lv_at hl 3 rfl) ?_
        refine rf_calli (As := [.int (nI t)]) (rest := []) (v := bd_b (sp_m N O B t)) ⟨hx, hb, hml, hown, hts⟩ (rc_mayStart l D ra ca N O Z B hB t (by omega)) (bg_cwV 1 hts tw_ml_M_122 tw_im_M_mayStart tw_se_M_mayStart tw_in_M tw_co_M_mayStart rfl rfl th_M_mayStart ⟨Nat.le_of_ble_eq_true rfl, Nat.le_of_ble_eq_true rfl⟩) hK hP rfl hl.1 rfl (by decide) dd_M_chosen_16 ⟨Nat.zero_le _, Nat.zero_le _⟩ ?_
        refine bq_zeq (tgt := 70) hx hb dd_M_chosen_19 rfl (fun h19 => ?_) (fun h19 => ?_)
        · refine lv_iinc (k := 3) (v := nI (t + 1)) hx hb dd_M_chosen_70 hl rfl (nI_1 _) (by decide) rfl (fun ls hl => ?_)
          have hl : lv_has ls 5 [(3, .int (nI (t + 1))), (0, .ref (ra 0)), (1, .int (bd_o (sp_h N O B t))), (2, .int (sp_rk N (sp_h N O B t)))] := hl
          refine lv_goto (tgt := 6) hx hb dd_M_chosen_73 rfl ?_
          have e9 : sp_h N O B (t + 1) = sp_h N O B t := by simp [sp_h, sp_e, h11, Nat.not_le.mpr h11, h19]
          exact ih (t + 1) ls (by omega) (by rw [e9]; exact lv_sub hl [1, 2, 3, 0] rfl)
        · refine lv_aload_n hx hb dd_M_chosen_22 rfl (lv_at hl 0 rfl) ?_
          refine lv_aload_n hx hb dd_M_chosen_23 rfl (lv_at hl 0 rfl) ?_
          refine va_get (D := D) (ci := 4) (v := .ref (ra 7)) (C := rn_M) (T := ft_M) (N := 19) hx hb hts tw_fs_M hown hK hP 0 rfl rfl 7 (by decide) (hts _ tw_fl_M_26) (fun _ h9 => h9) rfl dd_M_chosen_24 ?_
          refine lv_iload_n hx hb dd_M_chosen_27 rfl (lv_at hl 3 rfl) ?_
          refine bq_iald hx hb hK hP 5 4 rfl rfl (by omega) (by decide) dd_M_chosen_28 ?_
          refine rf_calli (As := [.int (nI (N 7 t))]) (rest := []) (v := nI (sp_r N (N 7 t))) ⟨hx, hb, hml, hown, hts⟩ (rc_root l D ra ca N O Z B hB (N 7 t) (hB_7 t)) (bg_cwV 1 hts tw_ml_M_125 tw_im_M_root tw_se_M_root tw_in_M tw_co_M_root rfl rfl th_M_root ⟨Nat.le_of_ble_eq_true rfl, Nat.le_of_ble_eq_true rfl⟩) hK hP rfl hl.1 rfl (by decide) dd_M_chosen_29 ⟨Nat.zero_le _, Nat.zero_le _⟩ ?_
          refine lv_istore hx hb dd_M_chosen_32 hl (by decide) rfl (fun ls hl => ?_)
          have hl : lv_has ls 5 [(4, .int (nI (sp_r N (N 7 t)))), (0, .ref (ra 0)), (1, .int (bd_o (sp_h N O B t))), (2, .int (sp_rk N (sp_h N O B t))), (3, .int (nI t))] := hl
          refine lv_iload_n hx hb dd_M_chosen_34 rfl (lv_at hl 2 rfl) ?_
          refine bq_olt (tgt := 65) hx hb (fun k hk => by have h9 := sp_h_lt hk; omega) dd_M_chosen_35 rfl (fun h35 => ?_) (fun h35 => ?_)
          · refine lv_iload_n hx hb dd_M_chosen_65 rfl (lv_at hl 4 rfl) ?_
            refine lv_istore_n hx hb dd_M_chosen_66 rfl hl (by decide) rfl (fun ls hl => ?_)
            have hl : lv_has ls 5 [(1, .int (nI t)), (4, .int (nI (sp_r N (N 7 t)))), (0, .ref (ra 0)), (2, .int (sp_rk N (sp_h N O B t))), (3, .int (nI t))] := hl
            refine lv_iload hx hb dd_M_chosen_67 (lv_at hl 1 rfl) ?_
            refine lv_istore_n hx hb dd_M_chosen_69 rfl hl (by decide) rfl (fun ls hl => ?_)
            have hl : lv_has ls 5 [(2, .int (nI (sp_r N (N 7 t)))), (1, .int (nI t)), (4, .int (nI (sp_r N (N 7 t)))), (0, .ref (ra 0)), (3, .int (nI t))] := hl
            refine lv_iinc (k := 4) (v := nI (t + 1)) hx hb dd_M_chosen_70 hl rfl (nI_1 _) (by decide) rfl (fun ls hl => ?_)
            have hl : lv_has ls 5 [(3, .int (nI (t + 1))), (2, .int (nI (sp_r N (N 7 t)))), (1, .int (nI t)), (4, .int (nI (sp_r N (N 7 t)))), (0, .ref (ra 0))] := hl
            refine lv_goto (tgt := 6) hx hb dd_M_chosen_73 rfl ?_
            have e9 : sp_h N O B (t + 1) = some t := by simp [sp_h, sp_e, h11, Nat.not_le.mpr h11, h19, h35]
            exact ih (t + 1) ls (by omega) (by rw [e9]; exact lv_sub hl [4, 2, 1, 0] rfl)
          · obtain ⟨b, hb9⟩ := bd_ne h35
            have hbt := sp_h_lt hb9
            have hl : lv_has ls 5 [(4, .int (nI (sp_r N (N 7 t)))), (0, .ref (ra 0)), (1, .int (nI b)), (2, .int (nI (sp_r N (N 7 b)))), (3, .int (nI t))] := by rw [hb9] at hl; exact hl
            refine lv_iload hx hb dd_M_chosen_38 (lv_at hl 0 rfl) ?_
            refine lv_iload_n hx hb dd_M_chosen_40 rfl (lv_at hl 3 rfl) ?_
            refine bq_gt (tgt := 65) hx hb (Nat.lt_trans (sp_r_lt _ _) (by decide)) (Nat.lt_trans (sp_r_lt _ _) (by decide)) dd_M_chosen_41 rfl (fun h41 => ?_) (fun h41 => ?_)
            · refine lv_iload_n hx hb dd_M_chosen_65 rfl (lv_at hl 4 rfl) ?_
              refine lv_istore_n hx hb dd_M_chosen_66 rfl hl (by decide) rfl (fun ls hl => ?_)
              have hl : lv_has ls 5 [(1, .int (nI t)), (4, .int (nI (sp_r N (N 7 t)))), (0, .ref (ra 0)), (2, .int (nI (sp_r N (N 7 b)))), (3, .int (nI t))] := hl
              refine lv_iload hx hb dd_M_chosen_67 (lv_at hl 1 rfl) ?_
              refine lv_istore_n hx hb dd_M_chosen_69 rfl hl (by decide) rfl (fun ls hl => ?_)
              have hl : lv_has ls 5 [(2, .int (nI (sp_r N (N 7 t)))), (1, .int (nI t)), (4, .int (nI (sp_r N (N 7 t)))), (0, .ref (ra 0)), (3, .int (nI t))] := hl
              refine lv_iinc (k := 4) (v := nI (t + 1)) hx hb dd_M_chosen_70 hl rfl (nI_1 _) (by decide) rfl (fun ls hl => ?_)
              have hl : lv_has ls 5 [(3, .int (nI (t + 1))), (2, .int (nI (sp_r N (N 7 t)))), (1, .int (nI t)), (4, .int (nI (sp_r N (N 7 t)))), (0, .ref (ra 0))] := hl
              refine lv_goto (tgt := 6) hx hb dd_M_chosen_73 rfl ?_
              have e9 : sp_h N O B (t + 1) = some t := by simp [sp_h, sp_e, h11, Nat.not_le.mpr h11, h19, hb9, h41, Nat.not_le.mpr h41]
              exact ih (t + 1) ls (by omega) (by rw [e9]; exact lv_sub hl [4, 2, 1, 0] rfl)
            · refine lv_iload hx hb dd_M_chosen_44 (lv_at hl 0 rfl) ?_
              refine lv_iload_n hx hb dd_M_chosen_46 rfl (lv_at hl 3 rfl) ?_
              refine bq_ne (tgt := 70) hx hb (Nat.lt_trans (sp_r_lt _ _) (by decide)) (Nat.lt_trans (sp_r_lt _ _) (by decide)) dd_M_chosen_47 rfl (fun h47 => ?_) (fun h47 => ?_)
              · refine lv_iinc (k := 4) (v := nI (t + 1)) hx hb dd_M_chosen_70 hl rfl (nI_1 _) (by decide) rfl (fun ls hl => ?_)
                have hl : lv_has ls 5 [(3, .int (nI (t + 1))), (4, .int (nI (sp_r N (N 7 t)))), (0, .ref (ra 0)), (1, .int (nI b)), (2, .int (nI (sp_r N (N 7 b))))] := hl
                refine lv_goto (tgt := 6) hx hb dd_M_chosen_73 rfl ?_
                have e9 : sp_h N O B (t + 1) = some b := by simp [sp_h, sp_e, h11, Nat.not_le.mpr h11, h19, hb9, h41, Nat.not_lt.mpr h41, h47]
                exact ih (t + 1) ls (by omega) (by rw [e9]; exact lv_sub hl [2, 3, 4, 0] rfl)
              · refine lv_aload_n hx hb dd_M_chosen_50 rfl (lv_at hl 1 rfl) ?_
                refine va_get (D := D) (ci := 4) (v := .ref (ra 12)) (C := rn_M) (T := ft_M) (N := 19) hx hb hts tw_fs_M hown hK hP 0 rfl rfl 12 (by decide) (hts _ tw_fl_M_41) (fun _ h9 => h9) rfl dd_M_chosen_51 ?_
                refine lv_iload_n hx hb dd_M_chosen_54 rfl (lv_at hl 4 rfl) ?_
                refine bq_iald hx hb hK hP 10 9 rfl rfl (by omega) (by decide) dd_M_chosen_55 ?_
                refine lv_aload_n hx hb dd_M_chosen_56 rfl (lv_at hl 1 rfl) ?_
                refine va_get (D := D) (ci := 4) (v := .ref (ra 12)) (C := rn_M) (T := ft_M) (N := 19) hx hb hts tw_fs_M hown hK hP 0 rfl rfl 12 (by decide) (hts _ tw_fl_M_41) (fun _ h9 => h9) rfl dd_M_chosen_57 ?_
                refine lv_iload_n hx hb dd_M_chosen_60 rfl (lv_at hl 2 rfl) ?_
                refine bq_iald hx hb hK hP 10 9 rfl rfl (by omega) (by decide) dd_M_chosen_61 ?_
                refine bq_ge (tgt := 70) hx hb (hB_12 t) (hB_12 b) dd_M_chosen_62 rfl (fun h62 => ?_) (fun h62 => ?_)
                · refine lv_iinc (k := 4) (v := nI (t + 1)) hx hb dd_M_chosen_70 hl rfl (nI_1 _) (by decide) rfl (fun ls hl => ?_)
                  have hl : lv_has ls 5 [(3, .int (nI (t + 1))), (4, .int (nI (sp_r N (N 7 t)))), (0, .ref (ra 0)), (1, .int (nI b)), (2, .int (nI (sp_r N (N 7 b))))] := hl
                  refine lv_goto (tgt := 6) hx hb dd_M_chosen_73 rfl ?_
                  have e9 : sp_h N O B (t + 1) = some b := by simp [sp_h, sp_e, h11, Nat.not_le.mpr h11, h19, hb9, h41, Nat.not_lt.mpr h41, h47, h62, Nat.not_lt.mpr h62]
                  exact ih (t + 1) ls (by omega) (by rw [e9]; exact lv_sub hl [2, 3, 4, 0] rfl)
                · refine lv_iload_n hx hb dd_M_chosen_65 rfl (lv_at hl 4 rfl) ?_
                  refine lv_istore_n hx hb dd_M_chosen_66 rfl hl (by decide) rfl (fun ls hl => ?_)
                  have hl : lv_has ls 5 [(1, .int (nI t)), (4, .int (nI (sp_r N (N 7 t)))), (0, .ref (ra 0)), (2, .int (nI (sp_r N (N 7 b)))), (3, .int (nI t))] := hl
                  refine lv_iload hx hb dd_M_chosen_67 (lv_at hl 1 rfl) ?_
                  refine lv_istore_n hx hb dd_M_chosen_69 rfl hl (by decide) rfl (fun ls hl => ?_)
                  have hl : lv_has ls 5 [(2, .int (nI (sp_r N (N 7 t)))), (1, .int (nI t)), (4, .int (nI (sp_r N (N 7 t)))), (0, .ref (ra 0)), (3, .int (nI t))] := hl
                  refine lv_iinc (k := 4) (v := nI (t + 1)) hx hb dd_M_chosen_70 hl rfl (nI_1 _) (by decide) rfl (fun ls hl => ?_)
                  have hl : lv_has ls 5 [(3, .int (nI (t + 1))), (2, .int (nI (sp_r N (N 7 t)))), (1, .int (nI t)), (4, .int (nI (sp_r N (N 7 t)))), (0, .ref (ra 0))] := hl
                  refine lv_goto (tgt := 6) hx hb dd_M_chosen_73 rfl ?_
                  have e9 : sp_h N O B (t + 1) = some t := by simp [sp_h, sp_e, h11, Nat.not_le.mpr h11, h19, hb9, h41, Nat.not_lt.mpr h41, h47, h62, Nat.not_le.mpr h62]
                  exact ih (t + 1) ls (by omega) (by rw [e9]; exact lv_sub hl [4, 2, 1, 0] rfl)
  refine lv_iconst (v := bd_o none) hx hb dd_M_chosen_0 (by decide) ?_
  refine lv_istore_n hx hb dd_M_chosen_1 rfl hl (by decide) rfl (fun ls hl => ?_)
  have hl : lv_has ls 5 [(1, .int (bd_o none)), (0, .ref (ra 0))] := hl
  refine lv_iconst (v := -1) hx hb dd_M_chosen_2 (by decide) ?_
  refine lv_istore_n hx hb dd_M_chosen_3 rfl hl (by decide) rfl (fun ls hl => ?_)
  have hl : lv_has ls 5 [(2, .int (-1)), (1, .int (bd_o none)), (0, .ref (ra 0))] := hl
  refine lv_iconst (v := nI 0) hx hb dd_M_chosen_4 (by decide) ?_
  refine lv_istore_n hx hb dd_M_chosen_5 rfl hl (by decide) rfl (fun ls hl => ?_)
  have hl : lv_has ls 5 [(3, .int (nI 0)), (2, .int (-1)), (1, .int (bd_o none)), (0, .ref (ra 0))] := hl
  exact lp (N 6 0) 0 ls (by omega) (lv_sub hl [3, 2, 1, 0] rfl)

set_option maxHeartbeats 4000000 in
set_option maxRecDepth 100000 in
theorem rc_due (l : Launch) (D : va_G) (ra : Nat → Nat) (ca : Nat → ClassId) (N : sp_N) (O : sp_O) (Z : sp_Z) (B : sp_B) (hB : sp_Bd N O)  : Met l my_M_due (Cond.code my_M_due cd_M_due 3 (some .int) :: bg_tbl) ({ frames := 0, cells := 0, slots := 0, locals := 0 }) (va_Pc [.ref (ra 0)] (rf_U D ra ca N O Z B)) (vp_Si (fun r => r = bd_o (sp_d N Z (N 6 0)))) 0 0 (fun _ => False) := by
  refine Met.ofW (cc := cd_M_due) (maxL := 3) (ret := (some .int)) (by decide) rfl ?_
  intro p e s m args below meth c s₁ BB hml hv
  obtain ⟨rfl, hP, hK⟩ := hv
  have hx := BB.exec
  have hb := BB.bytes
  have hr := BB.returns
  have hts : ∀ w ∈ bg_tbl, w.before ([.ref (ra 0)] : List Value).toArray s = true := fun w h => atoms_spec (ws := (Cond.code my_M_due cd_M_due 3 (some .int) :: bg_tbl)) BB.pre w (List.mem_cons_of_mem _ h)
  have hown : s.vm.findClass rn_M = some m.cls := findClass_of_methodNamed BB.named
  have hlocks := BB.notSynchronized
  obtain ⟨hB_0, hB_1, hB_2, hB_3, hB_4, hB_5, hB_6, hB_7, hB_8, hB_9, hB_10, hB_11, hB_12, hB_17⟩ := id hB
  have hl := lv_entry ([.ref (ra 0)]) (n := 3) (Nat.le_of_ble_eq_true rfl)
  rw [lg_entry_eq]
  generalize (lg_sl ([.ref (ra 0)]) ++ List.replicate (3 - (lg_sl ([.ref (ra 0)])).length) Slot.unset).toArray = ls at hl ⊢
  have hl : lv_has ls 3 [(0, .ref (ra 0))] := hl
  have lp : ∀ (n : Nat) (t : Nat) (ls : Array Slot), (n + t = N 6 0) →  lv_has ls 3 [(0, .ref (ra 0)), (1, .int (bd_o (sp_d N Z t))), (2, .int (nI t))] → W p l e (headSpec (Cond.code my_M_due cd_M_due 3 (some .int) :: bg_tbl) ({ frames := 0, cells := 0, slots := 0, locals := 0 })).room s m ([.ref (ra 0)] : List Value).toArray below meth c s.heap [] 0 0 (MQ below (vp_Si (fun r => r = bd_o (sp_d N Z (N 6 0)))) ([.ref (ra 0)] : List Value).toArray s 0 0 (fun _ => False)) (F0 m 4 ls []) := by
    intro n
    induction n with
    | zero =>
      intro t ls hk hl
      refine lv_iload_n hx hb dd_M_due_4 rfl (lv_at hl 2 rfl) ?_
      refine lv_aload_n hx hb dd_M_due_5 rfl (lv_at hl 0 rfl) ?_
      refine va_get (D := D) (ci := 4) (v := .int (nI (N 6 0))) (C := rn_M) (T := ft_M) (N := 19) hx hb hts tw_fs_M hown hK hP 0 rfl rfl 6 (by decide) (hts _ tw_fl_M_61) (fun _ h9 => h9) rfl dd_M_due_6 ?_
      refine bq_ge (tgt := 64) hx hb (by omega) (Nat.lt_of_le_of_lt hB_6 (by decide)) dd_M_due_9 rfl (fun h9 => ?_) (fun h9 => ?_)
      · refine lv_iload_n hx hb dd_M_due_64 rfl (lv_at hl 1 rfl) ?_
        exact W.iret hx hb hr (fun tt htt hWW => ⟨_, rfl, (by rw [show t = N 6 0 by omega]), htt⟩) (fun _ h => by cases h) dd_M_due_65
      · exact absurd h9 (by omega)
    | succ n ih =>
      intro t ls hk hl
      refine lv_iload_n hx hb dd_M_due_4 rfl (lv_at hl 2 rfl) ?_
      refine lv_aload_n hx hb dd_M_due_5 rfl (lv_at hl 0 rfl) ?_
      refine va_get (D := D) (ci := 4) (v := .int (nI (N 6 0))) (C := rn_M) (T := ft_M) (N := 19) hx hb hts tw_fs_M hown hK hP 0 rfl rfl 6 (by decide) (hts _ tw_fl_M_61) (fun _ h9 => h9) rfl dd_M_due_6 ?_
      refine bq_ge (tgt := 64) hx hb (by omega) (Nat.lt_of_le_of_lt hB_6 (by decide)) dd_M_due_9 rfl (fun h9 => ?_) (fun h9 => ?_)
      · exact absurd h9 (by omega)
      · refine lv_aload_n hx hb dd_M_due_12 rfl (lv_at hl 0 rfl) ?_
        refine va_get (D := D) (ci := 4) (v := .ref (ra 8)) (C := rn_M) (T := ft_M) (N := 19) hx hb hts tw_fs_M hown hK hP 0 rfl rfl 8 (by decide) (hts _ tw_fl_M_29) (fun _ h9 => h9) rfl dd_M_due_13 ?_
        refine lv_iload_n hx hb dd_M_due_16 rfl (lv_at hl 2 rfl) ?_
        refine bq_iald hx hb hK hP 6 5 rfl rfl (by omega) (by decide) dd_M_due_17 ?_
        refine lv_iconst (v := nI 1) hx hb dd_M_due_18 (by decide) ?_
        refine bq_ne (tgt := 58) hx hb (Nat.lt_trans (hB_8 t) (by decide)) (by decide) dd_M_due_19 rfl (fun h19 => ?_) (fun h19 => ?_)
        · refine lv_iinc (k := 2) (v := nI (t + 1)) hx hb dd_M_due_58 hl rfl (nI_1 _) (by decide) rfl (fun ls hl => ?_)
          have hl : lv_has ls 3 [(2, .int (nI (t + 1))), (0, .ref (ra 0)), (1, .int (bd_o (sp_d N Z t)))] := hl
          refine lv_goto (tgt := 4) hx hb dd_M_due_61 rfl ?_
          have e9 : sp_d N Z (t + 1) = sp_d N Z t := by simp [sp_d, sp_i, h9, Nat.not_le.mpr h9, h19]
          exact ih (t + 1) ls (by omega) (by rw [e9]; exact lv_sub hl [1, 2, 0] rfl)
        · refine lv_aload_n hx hb dd_M_due_22 rfl (lv_at hl 0 rfl) ?_
          refine va_get (D := D) (ci := 4) (v := .ref (ra 13)) (C := rn_M) (T := ft_M) (N := 19) hx hb hts tw_fs_M hown hK hP 0 rfl rfl 13 (by decide) (hts _ tw_fl_M_44) (fun _ h9 => h9) rfl dd_M_due_23 ?_
          refine lv_iload_n hx hb dd_M_due_26 rfl (lv_at hl 2 rfl) ?_
          refine bq_lald hx hb hK hP 11 10 rfl rfl (by omega) (by decide) dd_M_due_27 ?_
          refine lv_aload_n hx hb dd_M_due_28 rfl (lv_at hl 0 rfl) ?_
          refine va_get (D := D) (ci := 4) (v := .long (Z 18 0)) (C := rn_M) (T := ft_M) (N := 19) hx hb hts tw_fs_M hown hK hP 0 rfl rfl 18 (by decide) (hts _ tw_fl_M_111) (fun _ h9 => h9) rfl dd_M_due_29 ?_
          refine W.lcmp hx hb dd_M_due_32 ?_
          refine bq_lgt (tgt := 58) hx hb dd_M_due_33 rfl (fun h33 => ?_) (fun h33 => ?_)
          · refine lv_iinc (k := 2) (v := nI (t + 1)) hx hb dd_M_due_58 hl rfl (nI_1 _) (by decide) rfl (fun ls hl => ?_)
            have hl : lv_has ls 3 [(2, .int (nI (t + 1))), (0, .ref (ra 0)), (1, .int (bd_o (sp_d N Z t)))] := hl
            refine lv_goto (tgt := 4) hx hb dd_M_due_61 rfl ?_
            have e9 : sp_d N Z (t + 1) = sp_d N Z t := by simp [sp_d, sp_i, h9, Nat.not_le.mpr h9, h19, Int64.not_le.mpr h33]
            exact ih (t + 1) ls (by omega) (by rw [e9]; exact lv_sub hl [1, 2, 0] rfl)
          · refine lv_iload_n hx hb dd_M_due_36 rfl (lv_at hl 1 rfl) ?_
            refine bq_olt (tgt := 56) hx hb (fun k hk => by have h9 := sp_d_lt hk; omega) dd_M_due_37 rfl (fun h37 => ?_) (fun h37 => ?_)
            · refine lv_iload_n hx hb dd_M_due_56 rfl (lv_at hl 2 rfl) ?_
              refine lv_istore_n hx hb dd_M_due_57 rfl hl (by decide) rfl (fun ls hl => ?_)
              have hl : lv_has ls 3 [(1, .int (nI t)), (0, .ref (ra 0)), (2, .int (nI t))] := hl
              refine lv_iinc (k := 2) (v := nI (t + 1)) hx hb dd_M_due_58 hl rfl (nI_1 _) (by decide) rfl (fun ls hl => ?_)
              have hl : lv_has ls 3 [(2, .int (nI (t + 1))), (1, .int (nI t)), (0, .ref (ra 0))] := hl
              refine lv_goto (tgt := 4) hx hb dd_M_due_61 rfl ?_
              have e9 : sp_d N Z (t + 1) = some t := by simp [sp_d, sp_i, h9, Nat.not_le.mpr h9, h19, h33, h37]
              exact ih (t + 1) ls (by omega) (by rw [e9]; exact lv_sub hl [2, 1, 0] rfl)
            · obtain ⟨b, hb9⟩ := bd_ne h37
              have hbt := sp_d_lt hb9
              have hl : lv_has ls 3 [(0, .ref (ra 0)), (1, .int (nI b)), (2, .int (nI t))] := by rw [hb9] at hl; exact hl
              refine lv_aload_n hx hb dd_M_due_40 rfl (lv_at hl 0 rfl) ?_
              refine va_get (D := D) (ci := 4) (v := .ref (ra 13)) (C := rn_M) (T := ft_M) (N := 19) hx hb hts tw_fs_M hown hK hP 0 rfl rfl 13 (by decide) (hts _ tw_fl_M_44) (fun _ h9 => h9) rfl dd_M_due_41 ?_
              refine lv_iload_n hx hb dd_M_due_44 rfl (lv_at hl 2 rfl) ?_
              refine bq_lald hx hb hK hP 11 10 rfl rfl (by omega) (by decide) dd_M_due_45 ?_
              refine lv_aload_n hx hb dd_M_due_46 rfl (lv_at hl 0 rfl) ?_
              refine va_get (D := D) (ci := 4) (v := .ref (ra 13)) (C := rn_M) (T := ft_M) (N := 19) hx hb hts tw_fs_M hown hK hP 0 rfl rfl 13 (by decide) (hts _ tw_fl_M_44) (fun _ h9 => h9) rfl dd_M_due_47 ?_
              refine lv_iload_n hx hb dd_M_due_50 rfl (lv_at hl 1 rfl) ?_
              refine bq_lald hx hb hK hP 11 10 rfl rfl (by omega) (by decide) dd_M_due_51 ?_
              refine W.lcmp hx hb dd_M_due_52 ?_
              refine bq_lge (tgt := 58) hx hb dd_M_due_53 rfl (fun h53 => ?_) (fun h53 => ?_)
              · refine lv_iinc (k := 2) (v := nI (t + 1)) hx hb dd_M_due_58 hl rfl (nI_1 _) (by decide) rfl (fun ls hl => ?_)
                have hl : lv_has ls 3 [(2, .int (nI (t + 1))), (0, .ref (ra 0)), (1, .int (nI b))] := hl
                refine lv_goto (tgt := 4) hx hb dd_M_due_61 rfl ?_
                have e9 : sp_d N Z (t + 1) = some b := by simp [sp_d, sp_i, h9, Nat.not_le.mpr h9, h19, h33, hb9, Int64.not_lt.mpr h53]
                exact ih (t + 1) ls (by omega) (by rw [e9]; exact lv_sub hl [1, 2, 0] rfl)
              · refine lv_iload_n hx hb dd_M_due_56 rfl (lv_at hl 2 rfl) ?_
                refine lv_istore_n hx hb dd_M_due_57 rfl hl (by decide) rfl (fun ls hl => ?_)
                have hl : lv_has ls 3 [(1, .int (nI t)), (0, .ref (ra 0)), (2, .int (nI t))] := hl
                refine lv_iinc (k := 2) (v := nI (t + 1)) hx hb dd_M_due_58 hl rfl (nI_1 _) (by decide) rfl (fun ls hl => ?_)
                have hl : lv_has ls 3 [(2, .int (nI (t + 1))), (1, .int (nI t)), (0, .ref (ra 0))] := hl
                refine lv_goto (tgt := 4) hx hb dd_M_due_61 rfl ?_
                have e9 : sp_d N Z (t + 1) = some t := by simp [sp_d, sp_i, h9, Nat.not_le.mpr h9, h19, h33, hb9, h53]
                exact ih (t + 1) ls (by omega) (by rw [e9]; exact lv_sub hl [2, 1, 0] rfl)
  refine lv_iconst (v := bd_o none) hx hb dd_M_due_0 (by decide) ?_
  refine lv_istore_n hx hb dd_M_due_1 rfl hl (by decide) rfl (fun ls hl => ?_)
  have hl : lv_has ls 3 [(1, .int (bd_o none)), (0, .ref (ra 0))] := hl
  refine lv_iconst (v := nI 0) hx hb dd_M_due_2 (by decide) ?_
  refine lv_istore_n hx hb dd_M_due_3 rfl hl (by decide) rfl (fun ls hl => ?_)
  have hl : lv_has ls 3 [(2, .int (nI 0)), (1, .int (bd_o none)), (0, .ref (ra 0))] := hl
  exact lp (N 6 0) 0 ls (by omega) (lv_sub hl [2, 1, 0] rfl)

set_option maxHeartbeats 4000000 in
set_option maxRecDepth 100000 in
theorem rc_ready (l : Launch) (D : va_G) (ra : Nat → Nat) (ca : Nat → ClassId) (N : sp_N) (O : sp_O) (Z : sp_Z) (B : sp_B) (hB : sp_Bd N O)  : Met l my_M_ready (Cond.code my_M_ready cd_M_ready 3 (some .int) :: bg_tbl) ({ frames := 4, cells := 0, slots := 0, locals := 92 }) (va_Pc [.ref (ra 0)] (rf_U D ra ca N O Z B)) (vp_Si (fun r => r = nI (sp_y N O B))) 0 0 (fun _ => False) := by
  refine Met.ofW (cc := cd_M_ready) (maxL := 3) (ret := (some .int)) (by decide) rfl ?_
  intro p e s m args below meth c s₁ BB hml hv
  obtain ⟨rfl, hP, hK⟩ := hv
  have hx := BB.exec
  have hb := BB.bytes
  have hr := BB.returns
  have hts : ∀ w ∈ bg_tbl, w.before ([.ref (ra 0)] : List Value).toArray s = true := fun w h => atoms_spec (ws := (Cond.code my_M_ready cd_M_ready 3 (some .int) :: bg_tbl)) BB.pre w (List.mem_cons_of_mem _ h)
  have hown : s.vm.findClass rn_M = some m.cls := findClass_of_methodNamed BB.named
  have hlocks := BB.notSynchronized
  obtain ⟨hB_0, hB_1, hB_2, hB_3, hB_4, hB_5, hB_6, hB_7, hB_8, hB_9, hB_10, hB_11, hB_12, hB_17⟩ := id hB
  have hl := lv_entry ([.ref (ra 0)]) (n := 3) (Nat.le_of_ble_eq_true rfl)
  rw [lg_entry_eq]
  generalize (lg_sl ([.ref (ra 0)]) ++ List.replicate (3 - (lg_sl ([.ref (ra 0)])).length) Slot.unset).toArray = ls at hl ⊢
  have hl : lv_has ls 3 [(0, .ref (ra 0))] := hl
  have lp : ∀ (n : Nat) (t : Nat) (ls : Array Slot), (n + t = N 6 0) →  lv_has ls 3 [(0, .ref (ra 0)), (1, .int (nI (sp_c (sp_m N O B) t))), (2, .int (nI t))] → W p l e (headSpec (Cond.code my_M_ready cd_M_ready 3 (some .int) :: bg_tbl) ({ frames := 4, cells := 0, slots := 0, locals := 92 })).room s m ([.ref (ra 0)] : List Value).toArray below meth c s.heap [] 0 0 (MQ below (vp_Si (fun r => r = nI (sp_y N O B))) ([.ref (ra 0)] : List Value).toArray s 0 0 (fun _ => False)) (F0 m 4 ls []) := by
    intro n
    induction n with
    | zero =>
      intro t ls hk hl
      refine lv_iload_n hx hb dd_M_ready_4 rfl (lv_at hl 2 rfl) ?_
      refine lv_aload_n hx hb dd_M_ready_5 rfl (lv_at hl 0 rfl) ?_
      refine va_get (D := D) (ci := 4) (v := .int (nI (N 6 0))) (C := rn_M) (T := ft_M) (N := 19) hx hb hts tw_fs_M hown hK hP 0 rfl rfl 6 (by decide) (hts _ tw_fl_M_61) (fun _ h9 => h9) rfl dd_M_ready_6 ?_
      refine bq_ge (tgt := 34) hx hb (by omega) (Nat.lt_of_le_of_lt hB_6 (by decide)) dd_M_ready_9 rfl (fun h9 => ?_) (fun h9 => ?_)
      · refine lv_iload_n hx hb dd_M_ready_34 rfl (lv_at hl 1 rfl) ?_
        exact W.iret hx hb hr (fun tt htt hWW => ⟨_, rfl, (by rw [show t = N 6 0 by omega]; rfl), htt⟩) (fun _ h => by cases h) dd_M_ready_35
      · exact absurd h9 (by omega)
    | succ n ih =>
      intro t ls hk hl
      refine lv_iload_n hx hb dd_M_ready_4 rfl (lv_at hl 2 rfl) ?_
      refine lv_aload_n hx hb dd_M_ready_5 rfl (lv_at hl 0 rfl) ?_
      refine va_get (D := D) (ci := 4) (v := .int (nI (N 6 0))) (C := rn_M) (T := ft_M) (N := 19) hx hb hts tw_fs_M hown hK hP 0 rfl rfl 6 (by decide) (hts _ tw_fl_M_61) (fun _ h9 => h9) rfl dd_M_ready_6 ?_
      refine bq_ge (tgt := 34) hx hb (by omega) (Nat.lt_of_le_of_lt hB_6 (by decide)) dd_M_ready_9 rfl (fun h9 => ?_) (fun h9 => ?_)
      · exact absurd h9 (by omega)
      · refine lv_aload_n hx hb dd_M_ready_12 rfl (lv_at hl 0 rfl) ?_
        refine lv_iload_n hx hb dd_M_ready_13 rfl (lv_at hl 2 rfl) ?_
        refine rf_calli (As := [.int (nI t)]) (rest := []) (v := bd_b (sp_m N O B t)) ⟨hx, hb, hml, hown, hts⟩ (rc_mayStart l D ra ca N O Z B hB t (by omega)) (bg_cwV 1 hts tw_ml_M_122 tw_im_M_mayStart tw_se_M_mayStart tw_in_M tw_co_M_mayStart rfl rfl th_M_mayStart ⟨Nat.le_of_ble_eq_true rfl, Nat.le_of_ble_eq_true rfl⟩) hK hP rfl hl.1 rfl (by decide) dd_M_ready_14 ⟨Nat.zero_le _, Nat.zero_le _⟩ ?_
        refine bq_zeq (tgt := 26) hx hb dd_M_ready_17 rfl (fun h17 => ?_) (fun h17 => ?_)
        · refine lv_iload_n hx hb dd_M_ready_26 rfl (lv_at hl 1 rfl) ?_
          refine lv_istore_n hx hb dd_M_ready_27 rfl hl (by decide) rfl (fun ls hl => ?_)
          have hl : lv_has ls 3 [(1, .int (nI (sp_c (sp_m N O B) t))), (0, .ref (ra 0)), (2, .int (nI t))] := hl
          refine lv_iinc (k := 2) (v := nI (t + 1)) hx hb dd_M_ready_28 hl rfl (nI_1 _) (by decide) rfl (fun ls hl => ?_)
          have hl : lv_has ls 3 [(2, .int (nI (t + 1))), (1, .int (nI (sp_c (sp_m N O B) t))), (0, .ref (ra 0))] := hl
          refine lv_goto (tgt := 4) hx hb dd_M_ready_31 rfl ?_
          have e9 : sp_c (sp_m N O B) (t + 1) = sp_c (sp_m N O B) t := by simp [sp_c, h9, Nat.not_le.mpr h9, h17]
          exact ih (t + 1) ls (by omega) (by rw [e9]; exact lv_sub hl [2, 1, 0] rfl)
        · refine lv_iload_n hx hb dd_M_ready_20 rfl (lv_at hl 1 rfl) ?_
          refine lv_iconst (v := nI 1) hx hb dd_M_ready_21 (by decide) ?_
          refine lv_iadd hx hb dd_M_ready_22 ?_
          rw [nI_add]
          refine lv_goto (tgt := 27) hx hb dd_M_ready_23 rfl ?_
          refine lv_istore_n hx hb dd_M_ready_27 rfl hl (by decide) rfl (fun ls hl => ?_)
          have hl : lv_has ls 3 [(1, .int (nI ((sp_c (sp_m N O B) t) + 1))), (0, .ref (ra 0)), (2, .int (nI t))] := hl
          refine lv_iinc (k := 2) (v := nI (t + 1)) hx hb dd_M_ready_28 hl rfl (nI_1 _) (by decide) rfl (fun ls hl => ?_)
          have hl : lv_has ls 3 [(2, .int (nI (t + 1))), (1, .int (nI ((sp_c (sp_m N O B) t) + 1))), (0, .ref (ra 0))] := hl
          refine lv_goto (tgt := 4) hx hb dd_M_ready_31 rfl ?_
          have e9 : sp_c (sp_m N O B) (t + 1) = (sp_c (sp_m N O B) t) + 1 := by simp [sp_c, h9, Nat.not_le.mpr h9, h17]
          exact ih (t + 1) ls (by omega) (by rw [e9]; exact lv_sub hl [2, 1, 0] rfl)
  refine lv_iconst (v := nI 0) hx hb dd_M_ready_0 (by decide) ?_
  refine lv_istore_n hx hb dd_M_ready_1 rfl hl (by decide) rfl (fun ls hl => ?_)
  have hl : lv_has ls 3 [(1, .int (nI 0)), (0, .ref (ra 0))] := hl
  refine lv_iconst (v := nI 0) hx hb dd_M_ready_2 (by decide) ?_
  refine lv_istore_n hx hb dd_M_ready_3 rfl hl (by decide) rfl (fun ls hl => ?_)
  have hl : lv_has ls 3 [(2, .int (nI 0)), (1, .int (nI 0)), (0, .ref (ra 0))] := hl
  exact lp (N 6 0) 0 ls (by omega) (lv_sub hl [2, 1, 0] rfl)

set_option maxHeartbeats 4000000 in
set_option maxRecDepth 100000 in
theorem rc_through (l : Launch) (D : va_G) (ra : Nat → Nat) (ca : Nat → ClassId) (N : sp_N) (O : sp_O) (Z : sp_Z) (B : sp_B) (hB : sp_Bd N O) (q : Int32) : Met l my_M_through (Cond.code my_M_through cd_M_through 2 (some .int) :: bg_tbl) ({ frames := 2, cells := 0, slots := 0, locals := 47 }) (va_Pc [.ref (ra 0), .int q] (rf_U D ra ca N O Z B)) (vp_Si (fun r => r = am_through N q)) 0 0 (fun _ => False) := by
  refine Met.ofW (cc := cd_M_through) (maxL := 2) (ret := (some .int)) (by decide) rfl ?_
  intro p e s m args below meth c s₁ BB hml hv
  obtain ⟨rfl, hP, hK⟩ := hv
  have hx := BB.exec
  have hb := BB.bytes
  have hr := BB.returns
  have hts : ∀ w ∈ bg_tbl, w.before ([.ref (ra 0), .int q] : List Value).toArray s = true := fun w h => atoms_spec (ws := (Cond.code my_M_through cd_M_through 2 (some .int) :: bg_tbl)) BB.pre w (List.mem_cons_of_mem _ h)
  have hown : s.vm.findClass rn_M = some m.cls := findClass_of_methodNamed BB.named
  have hlocks := BB.notSynchronized
  obtain ⟨hB_0, hB_1, hB_2, hB_3, hB_4, hB_5, hB_6, hB_7, hB_8, hB_9, hB_10, hB_11, hB_12, hB_17⟩ := id hB
  have hl := lv_entry ([.ref (ra 0), .int q]) (n := 2) (Nat.le_of_ble_eq_true rfl)
  rw [lg_entry_eq]
  generalize (lg_sl ([.ref (ra 0), .int q]) ++ List.replicate (2 - (lg_sl ([.ref (ra 0), .int q])).length) Slot.unset).toArray = ls at hl ⊢
  have hl : lv_has ls 2 [(0, .ref (ra 0)), (1, .int q)] := hl
  refine lv_aload_n hx hb dd_M_through_0 rfl (lv_at hl 0 rfl) ?_
  refine lv_iload_n hx hb dd_M_through_1 rfl (lv_at hl 1 rfl) ?_
  refine rf_calli (As := [.int q]) (rest := []) (v := bd_b (bd_in q (N 1 0))) ⟨hx, hb, hml, hown, hts⟩ (rc_isQueue l D ra ca N O Z B hB q) (bg_cwV 1 hts tw_ml_M_102 tw_im_M_isQueue tw_se_M_isQueue tw_in_M tw_co_M_isQueue rfl rfl th_M_isQueue ⟨Nat.le_of_ble_eq_true rfl, Nat.le_of_ble_eq_true rfl⟩) hK hP rfl hl.1 rfl (by decide) dd_M_through_2 ⟨Nat.zero_le _, Nat.zero_le _⟩ ?_
  refine bq_zeq (tgt := 16) hx hb dd_M_through_5 rfl (fun h5 => ?_) (fun h5 => ?_)
  · refine lv_iconst (v := -1) hx hb dd_M_through_16 (by decide) ?_
    exact W.iret hx hb hr (fun tt htt hWW => ⟨_, rfl, (by rw [am_through, if_neg (by rw [h5]; decide)]), htt⟩) (fun _ h => by cases h) dd_M_through_17
  · obtain ⟨a, ha9, rfl⟩ := bd_in_of h5 (by omega)
    refine lv_aload_n hx hb dd_M_through_8 rfl (lv_at hl 0 rfl) ?_
    refine lv_iload_n hx hb dd_M_through_9 rfl (lv_at hl 1 rfl) ?_
    refine rf_calli (As := [.int (nI a)]) (rest := []) (v := nI (sp_p N a)) ⟨hx, hb, hml, hown, hts⟩ (rc_passing l D ra ca N O Z B hB a (by omega)) (bg_cwV 1 hts tw_ml_M_72 tw_im_M_passing tw_se_M_passing tw_in_M tw_co_M_passing rfl rfl th_M_passing ⟨Nat.le_of_ble_eq_true rfl, Nat.le_of_ble_eq_true rfl⟩) hK hP rfl hl.1 rfl (by decide) dd_M_through_10 ⟨Nat.zero_le _, Nat.zero_le _⟩ ?_
    refine lv_goto (tgt := 17) hx hb dd_M_through_13 rfl ?_
    exact W.iret hx hb hr (fun tt htt hWW => ⟨_, rfl, (by rw [am_through, if_pos h5, nI_clamp (by omega)]), htt⟩) (fun _ h => by cases h) dd_M_through_17

set_option maxHeartbeats 4000000 in
set_option maxRecDepth 100000 in
theorem rc_peak (l : Launch) (D : va_G) (ra : Nat → Nat) (ca : Nat → ClassId) (N : sp_N) (O : sp_O) (Z : sp_Z) (B : sp_B) (hB : sp_Bd N O) (q : Int32) : Met l my_M_peak (Cond.code my_M_peak cd_M_peak 2 (some .int) :: bg_tbl) ({ frames := 1, cells := 0, slots := 0, locals := 21 }) (va_Pc [.ref (ra 0), .int q] (rf_U D ra ca N O Z B)) (vp_Si (fun r => r = am_peak N q)) 0 0 (fun _ => False) := by
  refine Met.ofW (cc := cd_M_peak) (maxL := 2) (ret := (some .int)) (by decide) rfl ?_
  intro p e s m args below meth c s₁ BB hml hv
  obtain ⟨rfl, hP, hK⟩ := hv
  have hx := BB.exec
  have hb := BB.bytes
  have hr := BB.returns
  have hts : ∀ w ∈ bg_tbl, w.before ([.ref (ra 0), .int q] : List Value).toArray s = true := fun w h => atoms_spec (ws := (Cond.code my_M_peak cd_M_peak 2 (some .int) :: bg_tbl)) BB.pre w (List.mem_cons_of_mem _ h)
  have hown : s.vm.findClass rn_M = some m.cls := findClass_of_methodNamed BB.named
  have hlocks := BB.notSynchronized
  obtain ⟨hB_0, hB_1, hB_2, hB_3, hB_4, hB_5, hB_6, hB_7, hB_8, hB_9, hB_10, hB_11, hB_12, hB_17⟩ := id hB
  have hl := lv_entry ([.ref (ra 0), .int q]) (n := 2) (Nat.le_of_ble_eq_true rfl)
  rw [lg_entry_eq]
  generalize (lg_sl ([.ref (ra 0), .int q]) ++ List.replicate (2 - (lg_sl ([.ref (ra 0), .int q])).length) Slot.unset).toArray = ls at hl ⊢
  have hl : lv_has ls 2 [(0, .ref (ra 0)), (1, .int q)] := hl
  refine lv_aload_n hx hb dd_M_peak_0 rfl (lv_at hl 0 rfl) ?_
  refine lv_iload_n hx hb dd_M_peak_1 rfl (lv_at hl 1 rfl) ?_
  refine rf_calli (As := [.int q]) (rest := []) (v := bd_b (bd_in q (N 1 0))) ⟨hx, hb, hml, hown, hts⟩ (rc_isQueue l D ra ca N O Z B hB q) (bg_cwV 1 hts tw_ml_M_102 tw_im_M_isQueue tw_se_M_isQueue tw_in_M tw_co_M_isQueue rfl rfl th_M_isQueue ⟨Nat.le_of_ble_eq_true rfl, Nat.le_of_ble_eq_true rfl⟩) hK hP rfl hl.1 rfl (by decide) dd_M_peak_2 ⟨Nat.zero_le _, Nat.zero_le _⟩ ?_
  refine bq_zeq (tgt := 17) hx hb dd_M_peak_5 rfl (fun h5 => ?_) (fun h5 => ?_)
  · refine lv_iconst (v := -1) hx hb dd_M_peak_17 (by decide) ?_
    exact W.iret hx hb hr (fun tt htt hWW => ⟨_, rfl, (by rw [am_peak, if_neg (by rw [h5]; decide)]), htt⟩) (fun _ h => by cases h) dd_M_peak_18
  · obtain ⟨a, ha9, rfl⟩ := bd_in_of h5 (by omega)
    refine lv_aload_n hx hb dd_M_peak_8 rfl (lv_at hl 0 rfl) ?_
    refine va_get (D := D) (ci := 4) (v := .ref (ra 5)) (C := rn_M) (T := ft_M) (N := 19) hx hb hts tw_fs_M hown hK hP 0 rfl rfl 5 (by decide) (hts _ tw_fl_M_23) (fun _ h9 => h9) rfl dd_M_peak_9 ?_
    refine lv_iload_n hx hb dd_M_peak_12 rfl (lv_at hl 1 rfl) ?_
    refine bq_iald hx hb hK hP 4 3 rfl rfl (by omega) (by decide) dd_M_peak_13 ?_
    refine lv_goto (tgt := 18) hx hb dd_M_peak_14 rfl ?_
    exact W.iret hx hb hr (fun tt htt hWW => ⟨_, rfl, (by rw [am_peak, if_pos h5, nI_clamp (by omega)]), htt⟩) (fun _ h => by cases h) dd_M_peak_18

set_option maxHeartbeats 4000000 in
set_option maxRecDepth 100000 in
theorem rc_count (l : Launch) (D : va_G) (ra : Nat → Nat) (ca : Nat → ClassId) (N : sp_N) (O : sp_O) (Z : sp_Z) (B : sp_B) (hB : sp_Bd N O) (g : Int32) : Met l my_M_count (Cond.code my_M_count cd_M_count 2 (some .int) :: bg_tbl) ({ frames := 1, cells := 0, slots := 0, locals := 23 }) (va_Pc [.ref (ra 0), .int g] (rf_U D ra ca N O Z B)) (vp_Si (fun r => r = am_count N O g)) 0 0 (fun _ => False) := by
  refine Met.ofW (cc := cd_M_count) (maxL := 2) (ret := (some .int)) (by decide) rfl ?_
  intro p e s m args below meth c s₁ BB hml hv
  obtain ⟨rfl, hP, hK⟩ := hv
  have hx := BB.exec
  have hb := BB.bytes
  have hr := BB.returns
  have hts : ∀ w ∈ bg_tbl, w.before ([.ref (ra 0), .int g] : List Value).toArray s = true := fun w h => atoms_spec (ws := (Cond.code my_M_count cd_M_count 2 (some .int) :: bg_tbl)) BB.pre w (List.mem_cons_of_mem _ h)
  have hown : s.vm.findClass rn_M = some m.cls := findClass_of_methodNamed BB.named
  have hlocks := BB.notSynchronized
  obtain ⟨hB_0, hB_1, hB_2, hB_3, hB_4, hB_5, hB_6, hB_7, hB_8, hB_9, hB_10, hB_11, hB_12, hB_17⟩ := id hB
  have hl := lv_entry ([.ref (ra 0), .int g]) (n := 2) (Nat.le_of_ble_eq_true rfl)
  rw [lg_entry_eq]
  generalize (lg_sl ([.ref (ra 0), .int g]) ++ List.replicate (2 - (lg_sl ([.ref (ra 0), .int g])).length) Slot.unset).toArray = ls at hl ⊢
  have hl : lv_has ls 2 [(0, .ref (ra 0)), (1, .int g)] := hl
  refine lv_iload_n hx hb dd_M_count_0 rfl (lv_at hl 1 rfl) ?_
  refine lv_if_lt (tgt := 9) hx hb dd_M_count_1 rfl (fun h1 => ?_) (fun h1 => ?_)
  · refine lv_bipush (v := -2) hx hb dd_M_count_9 (by decide) ?_
    refine lv_goto (tgt := 19) hx hb dd_M_count_11 rfl ?_
    exact W.iret hx hb hr (fun tt htt hWW => ⟨_, rfl, (by rw [am_count, if_neg (by rw [bd_in_1 h1]; decide)]), htt⟩) (fun _ h => by cases h) dd_M_count_19
  · refine lv_iload_n hx hb dd_M_count_4 rfl (lv_at hl 1 rfl) ?_
    refine lv_iconst (v := nI 3) hx hb dd_M_count_5 (by decide) ?_
    refine lv_icmp_le (tgt := 14) hx hb dd_M_count_6 rfl (fun h6 => ?_) (fun h6 => ?_)
    · obtain ⟨a, ha9, rfl⟩ := bd_in_of (bd_in_4 h1 h6) (by decide)
      refine lv_aload_n hx hb dd_M_count_14 rfl (lv_at hl 0 rfl) ?_
      refine lv_iload_n hx hb dd_M_count_15 rfl (lv_at hl 1 rfl) ?_
      refine rf_calli (As := [.int (nI a)]) (rest := []) (v := nI (sp_g N O a)) ⟨hx, hb, hml, hown, hts⟩ (rc_countOf l D ra ca N O Z B hB a (by omega)) (bg_cwV 1 hts tw_ml_M_92 tw_im_M_countOf tw_se_M_countOf tw_in_M tw_co_M_countOf rfl rfl th_M_countOf ⟨Nat.le_of_ble_eq_true rfl, Nat.le_of_ble_eq_true rfl⟩) hK hP rfl hl.1 rfl (by decide) dd_M_count_16 ⟨Nat.zero_le _, Nat.zero_le _⟩ ?_
      exact W.iret hx hb hr (fun tt htt hWW => ⟨_, rfl, (by rw [am_count, if_pos (bd_in_4 h1 h6), nI_clamp (by omega)]), htt⟩) (fun _ h => by cases h) dd_M_count_19
    · refine lv_bipush (v := -2) hx hb dd_M_count_9 (by decide) ?_
      refine lv_goto (tgt := 19) hx hb dd_M_count_11 rfl ?_
      exact W.iret hx hb hr (fun tt htt hWW => ⟨_, rfl, (by rw [am_count, if_neg (by rw [bd_in_5 h6]; decide)]), htt⟩) (fun _ h => by cases h) dd_M_count_19

set_option maxHeartbeats 4000000 in
set_option maxRecDepth 100000 in
theorem rc_state (l : Launch) (D : va_G) (ra : Nat → Nat) (ca : Nat → ClassId) (N : sp_N) (O : sp_O) (Z : sp_Z) (B : sp_B) (hB : sp_Bd N O) (t : Int32) : Met l my_M_state (Cond.code my_M_state cd_M_state 2 (some .int) :: bg_tbl) ({ frames := 1, cells := 0, slots := 0, locals := 21 }) (va_Pc [.ref (ra 0), .int t] (rf_U D ra ca N O Z B)) (vp_Si (fun r => r = am_state N B t)) 0 0 (fun _ => False) := by
  refine Met.ofW (cc := cd_M_state) (maxL := 2) (ret := (some .int)) (by decide) rfl ?_
  intro p e s m args below meth c s₁ BB hml hv
  obtain ⟨rfl, hP, hK⟩ := hv
  have hx := BB.exec
  have hb := BB.bytes
  have hr := BB.returns
  have hts : ∀ w ∈ bg_tbl, w.before ([.ref (ra 0), .int t] : List Value).toArray s = true := fun w h => atoms_spec (ws := (Cond.code my_M_state cd_M_state 2 (some .int) :: bg_tbl)) BB.pre w (List.mem_cons_of_mem _ h)
  have hown : s.vm.findClass rn_M = some m.cls := findClass_of_methodNamed BB.named
  have hlocks := BB.notSynchronized
  obtain ⟨hB_0, hB_1, hB_2, hB_3, hB_4, hB_5, hB_6, hB_7, hB_8, hB_9, hB_10, hB_11, hB_12, hB_17⟩ := id hB
  have hl := lv_entry ([.ref (ra 0), .int t]) (n := 2) (Nat.le_of_ble_eq_true rfl)
  rw [lg_entry_eq]
  generalize (lg_sl ([.ref (ra 0), .int t]) ++ List.replicate (2 - (lg_sl ([.ref (ra 0), .int t])).length) Slot.unset).toArray = ls at hl ⊢
  have hl : lv_has ls 2 [(0, .ref (ra 0)), (1, .int t)] := hl
  refine lv_aload_n hx hb dd_M_state_0 rfl (lv_at hl 0 rfl) ?_
  refine lv_iload_n hx hb dd_M_state_1 rfl (lv_at hl 1 rfl) ?_
  refine rf_calli (As := [.int t]) (rest := []) (v := bd_b (bd_in t (N 6 0))) ⟨hx, hb, hml, hown, hts⟩ (rc_isBlock l D ra ca N O Z B hB t) (bg_cwV 1 hts tw_ml_M_115 tw_im_M_isBlock tw_se_M_isBlock tw_in_M tw_co_M_isBlock rfl rfl th_M_isBlock ⟨Nat.le_of_ble_eq_true rfl, Nat.le_of_ble_eq_true rfl⟩) hK hP rfl hl.1 rfl (by decide) dd_M_state_2 ⟨Nat.zero_le _, Nat.zero_le _⟩ ?_
  refine bq_zne (tgt := 11) hx hb dd_M_state_5 rfl (fun h5 => ?_) (fun h5 => ?_)
  · obtain ⟨a, ha9, rfl⟩ := bd_in_of h5 (by omega)
    refine lv_aload_n hx hb dd_M_state_11 rfl (lv_at hl 0 rfl) ?_
    refine va_get (D := D) (ci := 4) (v := .ref (ra 8)) (C := rn_M) (T := ft_M) (N := 19) hx hb hts tw_fs_M hown hK hP 0 rfl rfl 8 (by decide) (hts _ tw_fl_M_29) (fun _ h9 => h9) rfl dd_M_state_12 ?_
    refine lv_iload_n hx hb dd_M_state_15 rfl (lv_at hl 1 rfl) ?_
    refine bq_iald hx hb hK hP 6 5 rfl rfl (by omega) (by decide) dd_M_state_16 ?_
    refine lv_aload_n hx hb dd_M_state_17 rfl (lv_at hl 0 rfl) ?_
    refine va_get (D := D) (ci := 4) (v := .ref (ra 15)) (C := rn_M) (T := ft_M) (N := 19) hx hb hts tw_fs_M hown hK hP 0 rfl rfl 15 (by decide) (hts _ tw_fl_M_52) (fun _ h9 => h9) rfl dd_M_state_18 ?_
    refine lv_iload_n hx hb dd_M_state_21 rfl (lv_at hl 1 rfl) ?_
    refine bq_zald hx hb hK hP 13 12 rfl rfl (by omega) (by decide) dd_M_state_22 ?_
    refine bq_zeq (tgt := 31) hx hb dd_M_state_23 rfl (fun h23 => ?_) (fun h23 => ?_)
    · refine lv_iconst (v := nI 0) hx hb dd_M_state_31 (by decide) ?_
      refine lv_iadd hx hb dd_M_state_32 ?_
      rw [nI_add]
      exact W.iret hx hb hr (fun tt htt hWW => ⟨_, rfl, (by rw [am_state, if_pos h5, nI_clamp (by omega), if_neg (by rw [h23]; decide)]), htt⟩) (fun _ h => by cases h) dd_M_state_33
    · refine lv_bipush (v := nI 8) hx hb dd_M_state_26 (by decide) ?_
      refine lv_goto (tgt := 32) hx hb dd_M_state_28 rfl ?_
      refine lv_iadd hx hb dd_M_state_32 ?_
      rw [nI_add]
      exact W.iret hx hb hr (fun tt htt hWW => ⟨_, rfl, (by rw [am_state, if_pos h5, nI_clamp (by omega), if_pos h23]), htt⟩) (fun _ h => by cases h) dd_M_state_33
  · refine lv_bipush (v := -3) hx hb dd_M_state_8 (by decide) ?_
    exact W.iret hx hb hr (fun tt htt hWW => ⟨_, rfl, (by rw [am_state, if_neg (by rw [h5]; decide)]), htt⟩) (fun _ h => by cases h) dd_M_state_10

set_option maxHeartbeats 4000000 in
set_option maxRecDepth 100000 in
theorem rc_queued (l : Launch) (D : va_G) (ra : Nat → Nat) (ca : Nat → ClassId) (N : sp_N) (O : sp_O) (Z : sp_Z) (B : sp_B) (hB : sp_Bd N O) (q : Int32) : Met l my_M_queued (Cond.code my_M_queued cd_M_queued 4 (some .int) :: bg_tbl) ({ frames := 1, cells := 0, slots := 0, locals := 21 }) (va_Pc [.ref (ra 0), .int q] (rf_U D ra ca N O Z B)) (vp_Si (fun r => r = am_queued N q)) 0 0 (fun _ => False) := by
  refine Met.ofW (cc := cd_M_queued) (maxL := 4) (ret := (some .int)) (by decide) rfl ?_
  intro p e s m args below meth c s₁ BB hml hv
  obtain ⟨rfl, hP, hK⟩ := hv
  have hx := BB.exec
  have hb := BB.bytes
  have hr := BB.returns
  have hts : ∀ w ∈ bg_tbl, w.before ([.ref (ra 0), .int q] : List Value).toArray s = true := fun w h => atoms_spec (ws := (Cond.code my_M_queued cd_M_queued 4 (some .int) :: bg_tbl)) BB.pre w (List.mem_cons_of_mem _ h)
  have hown : s.vm.findClass rn_M = some m.cls := findClass_of_methodNamed BB.named
  have hlocks := BB.notSynchronized
  obtain ⟨hB_0, hB_1, hB_2, hB_3, hB_4, hB_5, hB_6, hB_7, hB_8, hB_9, hB_10, hB_11, hB_12, hB_17⟩ := id hB
  have hl := lv_entry ([.ref (ra 0), .int q]) (n := 4) (Nat.le_of_ble_eq_true rfl)
  rw [lg_entry_eq]
  generalize (lg_sl ([.ref (ra 0), .int q]) ++ List.replicate (4 - (lg_sl ([.ref (ra 0), .int q])).length) Slot.unset).toArray = ls at hl ⊢
  have hl : lv_has ls 4 [(0, .ref (ra 0)), (1, .int q)] := hl
  refine lv_aload_n hx hb dd_M_queued_0 rfl (lv_at hl 0 rfl) ?_
  refine lv_iload_n hx hb dd_M_queued_1 rfl (lv_at hl 1 rfl) ?_
  refine rf_calli (As := [.int q]) (rest := []) (v := bd_b (bd_in q (N 1 0))) ⟨hx, hb, hml, hown, hts⟩ (rc_isQueue l D ra ca N O Z B hB q) (bg_cwV 1 hts tw_ml_M_102 tw_im_M_isQueue tw_se_M_isQueue tw_in_M tw_co_M_isQueue rfl rfl th_M_isQueue ⟨Nat.le_of_ble_eq_true rfl, Nat.le_of_ble_eq_true rfl⟩) hK hP rfl hl.1 rfl (by decide) dd_M_queued_2 ⟨Nat.zero_le _, Nat.zero_le _⟩ ?_
  refine bq_zne (tgt := 10) hx hb dd_M_queued_5 rfl (fun h5 => ?_) (fun h5 => ?_)
  · obtain ⟨a, ha9, rfl⟩ := bd_in_of h5 (by omega)
    have lp : ∀ (n : Nat) (t : Nat) (ls : Array Slot), (n + t = N 6 0) →  lv_has ls 4 [(0, .ref (ra 0)), (1, .int (nI a)), (2, .int (nI (sp_c (fun t => decide (N 8 t = 2) && decide (N 7 t = a)) t))), (3, .int (nI t))] → W p l e (headSpec (Cond.code my_M_queued cd_M_queued 4 (some .int) :: bg_tbl) ({ frames := 1, cells := 0, slots := 0, locals := 21 })).room s m ([.ref (ra 0), .int (nI a)] : List Value).toArray below meth c s.heap [] 0 0 (MQ below (vp_Si (fun r => r = am_queued N (nI a))) ([.ref (ra 0), .int (nI a)] : List Value).toArray s 0 0 (fun _ => False)) (F0 m 14 ls []) := by
      intro n
      induction n with
      | zero =>
        intro t ls hk hl
        refine lv_iload_n hx hb dd_M_queued_14 rfl (lv_at hl 3 rfl) ?_
        refine lv_aload_n hx hb dd_M_queued_15 rfl (lv_at hl 0 rfl) ?_
        refine va_get (D := D) (ci := 4) (v := .int (nI (N 6 0))) (C := rn_M) (T := ft_M) (N := 19) hx hb hts tw_fs_M hown hK hP 0 rfl rfl 6 (by decide) (hts _ tw_fl_M_61) (fun _ h9 => h9) rfl dd_M_queued_16 ?_
        refine bq_ge (tgt := 56) hx hb (by omega) (Nat.lt_of_le_of_lt hB_6 (by decide)) dd_M_queued_19 rfl (fun h19 => ?_) (fun h19 => ?_)
        · refine lv_iload_n hx hb dd_M_queued_56 rfl (lv_at hl 2 rfl) ?_
          exact W.iret hx hb hr (fun tt htt hWW => ⟨_, rfl, (by rw [am_queued, if_pos h5, nI_clamp (by omega), sp_q, show t = N 6 0 by omega]), htt⟩) (fun _ h => by cases h) dd_M_queued_57
        · exact absurd h19 (by omega)
      | succ n ih =>
        intro t ls hk hl
        refine lv_iload_n hx hb dd_M_queued_14 rfl (lv_at hl 3 rfl) ?_
        refine lv_aload_n hx hb dd_M_queued_15 rfl (lv_at hl 0 rfl) ?_
        refine va_get (D := D) (ci := 4) (v := .int (nI (N 6 0))) (C := rn_M) (T := ft_M) (N := 19) hx hb hts tw_fs_M hown hK hP 0 rfl rfl 6 (by decide) (hts _ tw_fl_M_61) (fun _ h9 => h9) rfl dd_M_queued_16 ?_
        refine bq_ge (tgt := 56) hx hb (by omega) (Nat.lt_of_le_of_lt hB_6 (by decide)) dd_M_queued_19 rfl (fun h19 => ?_) (fun h19 => ?_)
        · exact absurd h19 (by omega)
        · refine lv_aload_n hx hb dd_M_queued_22 rfl (lv_at hl 0 rfl) ?_
          refine va_get (D := D) (ci := 4) (v := .ref (ra 8)) (C := rn_M) (T := ft_M) (N := 19) hx hb hts tw_fs_M hown hK hP 0 rfl rfl 8 (by decide) (hts _ tw_fl_M_29) (fun _ h9 => h9) rfl dd_M_queued_23 ?_
          refine lv_iload_n hx hb dd_M_queued_26 rfl (lv_at hl 3 rfl) ?_
          refine bq_iald hx hb hK hP 6 5 rfl rfl (by omega) (by decide) dd_M_queued_27 ?_
          refine lv_iconst (v := nI 2) hx hb dd_M_queued_28 (by decide) ?_
          refine bq_ne (tgt := 48) hx hb (Nat.lt_trans (hB_8 t) (by decide)) (by decide) dd_M_queued_29 rfl (fun h29 => ?_) (fun h29 => ?_)
          · refine lv_iload_n hx hb dd_M_queued_48 rfl (lv_at hl 2 rfl) ?_
            refine lv_istore_n hx hb dd_M_queued_49 rfl hl (by decide) rfl (fun ls hl => ?_)
            have hl : lv_has ls 4 [(2, .int (nI (sp_c (fun t => decide (N 8 t = 2) && decide (N 7 t = a)) t))), (0, .ref (ra 0)), (1, .int (nI a)), (3, .int (nI t))] := hl
            refine lv_iinc (k := 3) (v := nI (t + 1)) hx hb dd_M_queued_50 hl rfl (nI_1 _) (by decide) rfl (fun ls hl => ?_)
            have hl : lv_has ls 4 [(3, .int (nI (t + 1))), (2, .int (nI (sp_c (fun t => decide (N 8 t = 2) && decide (N 7 t = a)) t))), (0, .ref (ra 0)), (1, .int (nI a))] := hl
            refine lv_goto (tgt := 14) hx hb dd_M_queued_53 rfl ?_
            have e9 : sp_c (fun t => decide (N 8 t = 2) && decide (N 7 t = a)) (t + 1) = sp_c (fun t => decide (N 8 t = 2) && decide (N 7 t = a)) t := by simp [sp_c, h19, Nat.not_le.mpr h19, h29]
            exact ih (t + 1) ls (by omega) (by rw [e9]; exact lv_sub hl [2, 3, 1, 0] rfl)
          · refine lv_aload_n hx hb dd_M_queued_32 rfl (lv_at hl 0 rfl) ?_
            refine va_get (D := D) (ci := 4) (v := .ref (ra 7)) (C := rn_M) (T := ft_M) (N := 19) hx hb hts tw_fs_M hown hK hP 0 rfl rfl 7 (by decide) (hts _ tw_fl_M_26) (fun _ h9 => h9) rfl dd_M_queued_33 ?_
            refine lv_iload_n hx hb dd_M_queued_36 rfl (lv_at hl 3 rfl) ?_
            refine bq_iald hx hb hK hP 5 4 rfl rfl (by omega) (by decide) dd_M_queued_37 ?_
            refine lv_iload_n hx hb dd_M_queued_38 rfl (lv_at hl 1 rfl) ?_
            refine bq_ne (tgt := 48) hx hb (Nat.lt_trans (hB_7 t) (by decide)) (by omega) dd_M_queued_39 rfl (fun h39 => ?_) (fun h39 => ?_)
            · refine lv_iload_n hx hb dd_M_queued_48 rfl (lv_at hl 2 rfl) ?_
              refine lv_istore_n hx hb dd_M_queued_49 rfl hl (by decide) rfl (fun ls hl => ?_)
              have hl : lv_has ls 4 [(2, .int (nI (sp_c (fun t => decide (N 8 t = 2) && decide (N 7 t = a)) t))), (0, .ref (ra 0)), (1, .int (nI a)), (3, .int (nI t))] := hl
              refine lv_iinc (k := 3) (v := nI (t + 1)) hx hb dd_M_queued_50 hl rfl (nI_1 _) (by decide) rfl (fun ls hl => ?_)
              have hl : lv_has ls 4 [(3, .int (nI (t + 1))), (2, .int (nI (sp_c (fun t => decide (N 8 t = 2) && decide (N 7 t = a)) t))), (0, .ref (ra 0)), (1, .int (nI a))] := hl
              refine lv_goto (tgt := 14) hx hb dd_M_queued_53 rfl ?_
              have e9 : sp_c (fun t => decide (N 8 t = 2) && decide (N 7 t = a)) (t + 1) = sp_c (fun t => decide (N 8 t = 2) && decide (N 7 t = a)) t := by simp [sp_c, h19, Nat.not_le.mpr h19, h29, h39]
              exact ih (t + 1) ls (by omega) (by rw [e9]; exact lv_sub hl [2, 3, 1, 0] rfl)
            · refine lv_iload_n hx hb dd_M_queued_42 rfl (lv_at hl 2 rfl) ?_
              refine lv_iconst (v := nI 1) hx hb dd_M_queued_43 (by decide) ?_
              refine lv_iadd hx hb dd_M_queued_44 ?_
              rw [nI_add]
              refine lv_goto (tgt := 49) hx hb dd_M_queued_45 rfl ?_
              refine lv_istore_n hx hb dd_M_queued_49 rfl hl (by decide) rfl (fun ls hl => ?_)
              have hl : lv_has ls 4 [(2, .int (nI ((sp_c (fun t => decide (N 8 t = 2) && decide (N 7 t = a)) t) + 1))), (0, .ref (ra 0)), (1, .int (nI a)), (3, .int (nI t))] := hl
              refine lv_iinc (k := 3) (v := nI (t + 1)) hx hb dd_M_queued_50 hl rfl (nI_1 _) (by decide) rfl (fun ls hl => ?_)
              have hl : lv_has ls 4 [(3, .int (nI (t + 1))), (2, .int (nI ((sp_c (fun t => decide (N 8 t = 2) && decide (N 7 t = a)) t) + 1))), (0, .ref (ra 0)), (1, .int (nI a))] := hl
              refine lv_goto (tgt := 14) hx hb dd_M_queued_53 rfl ?_
              have e9 : sp_c (fun t => decide (N 8 t = 2) && decide (N 7 t = a)) (t + 1) = (sp_c (fun t => decide (N 8 t = 2) && decide (N 7 t = a)) t) + 1 := by simp [sp_c, h19, Nat.not_le.mpr h19, h29, h39]
              exact ih (t + 1) ls (by omega) (by rw [e9]; exact lv_sub hl [2, 3, 1, 0] rfl)
    refine lv_iconst (v := nI 0) hx hb dd_M_queued_10 (by decide) ?_
    refine lv_istore_n hx hb dd_M_queued_11 rfl hl (by decide) rfl (fun ls hl => ?_)
    have hl : lv_has ls 4 [(2, .int (nI 0)), (0, .ref (ra 0)), (1, .int (nI a))] := hl
    refine lv_iconst (v := nI 0) hx hb dd_M_queued_12 (by decide) ?_
    refine lv_istore_n hx hb dd_M_queued_13 rfl hl (by decide) rfl (fun ls hl => ?_)
    have hl : lv_has ls 4 [(3, .int (nI 0)), (2, .int (nI 0)), (0, .ref (ra 0)), (1, .int (nI a))] := hl
    exact lp (N 6 0) 0 ls (by omega) (lv_sub hl [2, 3, 1, 0] rfl)
  · refine lv_iconst (v := -1) hx hb dd_M_queued_8 (by decide) ?_
    exact W.iret hx hb hr (fun tt htt hWW => ⟨_, rfl, (by rw [am_queued, if_neg (by rw [h5]; decide)]), htt⟩) (fun _ h => by cases h) dd_M_queued_9

set_option maxHeartbeats 4000000 in
set_option maxRecDepth 100000 in
theorem rc_inTheWay (l : Launch) (D : va_G) (ra : Nat → Nat) (ca : Nat → ClassId) (N : sp_N) (O : sp_O) (Z : sp_Z) (B : sp_B) (hB : sp_Bd N O) (h3q : 3 ≤ N 1 0) (c9 q : Nat) (bar : Bool) (hc2 : c9 < 160) (hq2 : q < 12) : Met l my_M_inTheWay (Cond.code my_M_inTheWay cd_M_inTheWay 5 (some .boolean) :: bg_tbl) ({ frames := 1, cells := 0, slots := 0, locals := 24 }) (va_Pc [.ref (ra 0), .int (nI c9), .int (nI q), .int (bd_b bar)] (rf_U D ra ca N O Z B)) (vp_Si (fun r => r = bd_b (sp_x N B c9 q bar))) 0 0 (fun _ => False) := by
  refine Met.ofW (cc := cd_M_inTheWay) (maxL := 5) (ret := (some .boolean)) (by decide) rfl ?_
  intro p e s m args below meth c s₁ BB hml hv
  obtain ⟨rfl, hP, hK⟩ := hv
  have hx := BB.exec
  have hb := BB.bytes
  have hr := BB.returns
  have hts : ∀ w ∈ bg_tbl, w.before ([.ref (ra 0), .int (nI c9), .int (nI q), .int (bd_b bar)] : List Value).toArray s = true := fun w h => atoms_spec (ws := (Cond.code my_M_inTheWay cd_M_inTheWay 5 (some .boolean) :: bg_tbl)) BB.pre w (List.mem_cons_of_mem _ h)
  have hown : s.vm.findClass rn_M = some m.cls := findClass_of_methodNamed BB.named
  have hlocks := BB.notSynchronized
  obtain ⟨hB_0, hB_1, hB_2, hB_3, hB_4, hB_5, hB_6, hB_7, hB_8, hB_9, hB_10, hB_11, hB_12, hB_17⟩ := id hB
  have hl := lv_entry ([.ref (ra 0), .int (nI c9), .int (nI q), .int (bd_b bar)]) (n := 5) (Nat.le_of_ble_eq_true rfl)
  rw [lg_entry_eq]
  generalize (lg_sl ([.ref (ra 0), .int (nI c9), .int (nI q), .int (bd_b bar)]) ++ List.replicate (5 - (lg_sl ([.ref (ra 0), .int (nI c9), .int (nI q), .int (bd_b bar)])).length) Slot.unset).toArray = ls at hl ⊢
  have hl : lv_has ls 5 [(0, .ref (ra 0)), (1, .int (nI c9)), (2, .int (nI q)), (3, .int (bd_b bar))] := hl
  have lp : ∀ (n : Nat) (x : Nat) (ls : Array Slot), (n + x = N 1 0) → (3 ≤ x) → (sp_a (fun x => decide (3 ≤ x) && sp_l N q x && sp_l N (N 7 c9) x && (decide (N 3 x = 1) || (B 14 c9 && decide (N 7 c9 = x)) || (bar && decide (x = q)))) x = false) →  lv_has ls 5 [(0, .ref (ra 0)), (1, .int (nI c9)), (2, .int (nI q)), (3, .int (bd_b bar)), (4, .int (nI x))] → W p l e (headSpec (Cond.code my_M_inTheWay cd_M_inTheWay 5 (some .boolean) :: bg_tbl) ({ frames := 1, cells := 0, slots := 0, locals := 24 })).room s m ([.ref (ra 0), .int (nI c9), .int (nI q), .int (bd_b bar)] : List Value).toArray below meth c s.heap [] 0 0 (MQ below (vp_Si (fun r => r = bd_b (sp_x N B c9 q bar))) ([.ref (ra 0), .int (nI c9), .int (nI q), .int (bd_b bar)] : List Value).toArray s 0 0 (fun _ => False)) (F0 m 3 ls []) := by
    intro n
    induction n with
    | zero =>
      intro x ls hk hx3 hn hl
      refine lv_iload hx hb dd_M_inTheWay_3 (lv_at hl 4 rfl) ?_
      refine lv_aload_n hx hb dd_M_inTheWay_5 rfl (lv_at hl 0 rfl) ?_
      refine va_get (D := D) (ci := 4) (v := .int (nI (N 1 0))) (C := rn_M) (T := ft_M) (N := 19) hx hb hts tw_fs_M hown hK hP 0 rfl rfl 1 (by decide) (hts _ tw_fl_M_7) (fun _ h9 => h9) rfl dd_M_inTheWay_6 ?_
      refine bq_ge (tgt := 86) hx hb (by omega) (Nat.lt_of_le_of_lt hB_1 (by decide)) dd_M_inTheWay_9 rfl (fun h9 => ?_) (fun h9 => ?_)
      · refine lv_iconst (v := bd_b false) hx hb dd_M_inTheWay_86 (by decide) ?_
        exact W.zret (ty := .boolean) hx hb hr (bd_b_nar _) (fun tt htt hWW => ⟨_, rfl, (by rw [sp_x, ← show x = N 1 0 by omega, hn]), htt⟩) (fun _ h => by cases h) dd_M_inTheWay_87
      · exact absurd h9 (by omega)
    | succ n ih =>
      intro x ls hk hx3 hn hl
      refine lv_iload hx hb dd_M_inTheWay_3 (lv_at hl 4 rfl) ?_
      refine lv_aload_n hx hb dd_M_inTheWay_5 rfl (lv_at hl 0 rfl) ?_
      refine va_get (D := D) (ci := 4) (v := .int (nI (N 1 0))) (C := rn_M) (T := ft_M) (N := 19) hx hb hts tw_fs_M hown hK hP 0 rfl rfl 1 (by decide) (hts _ tw_fl_M_7) (fun _ h9 => h9) rfl dd_M_inTheWay_6 ?_
      refine bq_ge (tgt := 86) hx hb (by omega) (Nat.lt_of_le_of_lt hB_1 (by decide)) dd_M_inTheWay_9 rfl (fun h9 => ?_) (fun h9 => ?_)
      · exact absurd h9 (by omega)
      · refine lv_aload_n hx hb dd_M_inTheWay_12 rfl (lv_at hl 0 rfl) ?_
        refine lv_iload_n hx hb dd_M_inTheWay_13 rfl (lv_at hl 2 rfl) ?_
        refine lv_iload hx hb dd_M_inTheWay_14 (lv_at hl 4 rfl) ?_
        refine rf_calli (As := [.int (nI q), .int (nI x)]) (rest := []) (v := bd_b (sp_l N q x)) ⟨hx, hb, hml, hown, hts⟩ (rc_leads l D ra ca N O Z B hB q x hq2 (by omega)) (bg_cwV 2 hts tw_ml_M_64 tw_im_M_leads tw_se_M_leads tw_in_M tw_co_M_leads rfl rfl th_M_leads ⟨Nat.le_of_ble_eq_true rfl, Nat.le_of_ble_eq_true rfl⟩) hK hP rfl hl.1 rfl (by decide) dd_M_inTheWay_16 ⟨Nat.zero_le _, Nat.zero_le _⟩ ?_
        refine bq_zeq (tgt := 80) hx hb dd_M_inTheWay_19 rfl (fun h19 => ?_) (fun h19 => ?_)
        · refine lv_iinc (k := 4) (v := nI (x + 1)) hx hb dd_M_inTheWay_80 hl rfl (nI_1 _) (by decide) rfl (fun ls hl => ?_)
          have hl : lv_has ls 5 [(4, .int (nI (x + 1))), (0, .ref (ra 0)), (1, .int (nI c9)), (2, .int (nI q)), (3, .int (bd_b bar))] := hl
          refine lv_goto (tgt := 3) hx hb dd_M_inTheWay_83 rfl ?_
          exact ih (x + 1) ls (by omega) (by omega) (sp_a_s hn (by simp only [decide_eq_true hx3, h19, Bool.and_true, Bool.true_and, Bool.and_false, Bool.false_and, Bool.or_true, Bool.true_or, Bool.or_false, Bool.false_or, Bool.and_self, Bool.or_self])) (lv_sub hl [1, 2, 3, 4, 0] rfl)
        · refine lv_aload_n hx hb dd_M_inTheWay_22 rfl (lv_at hl 0 rfl) ?_
          refine lv_aload_n hx hb dd_M_inTheWay_23 rfl (lv_at hl 0 rfl) ?_
          refine va_get (D := D) (ci := 4) (v := .ref (ra 7)) (C := rn_M) (T := ft_M) (N := 19) hx hb hts tw_fs_M hown hK hP 0 rfl rfl 7 (by decide) (hts _ tw_fl_M_26) (fun _ h9 => h9) rfl dd_M_inTheWay_24 ?_
          refine lv_iload_n hx hb dd_M_inTheWay_27 rfl (lv_at hl 1 rfl) ?_
          refine bq_iald hx hb hK hP 5 4 rfl rfl hc2 (by decide) dd_M_inTheWay_28 ?_
          refine lv_iload hx hb dd_M_inTheWay_29 (lv_at hl 4 rfl) ?_
          refine rf_calli (As := [.int (nI (N 7 c9)), .int (nI x)]) (rest := []) (v := bd_b (sp_l N (N 7 c9) x)) ⟨hx, hb, hml, hown, hts⟩ (rc_leads l D ra ca N O Z B hB (N 7 c9) x (hB_7 c9) (by omega)) (bg_cwV 2 hts tw_ml_M_64 tw_im_M_leads tw_se_M_leads tw_in_M tw_co_M_leads rfl rfl th_M_leads ⟨Nat.le_of_ble_eq_true rfl, Nat.le_of_ble_eq_true rfl⟩) hK hP rfl hl.1 rfl (by decide) dd_M_inTheWay_31 ⟨Nat.zero_le _, Nat.zero_le _⟩ ?_
          refine bq_zeq (tgt := 80) hx hb dd_M_inTheWay_34 rfl (fun h34 => ?_) (fun h34 => ?_)
          · refine lv_iinc (k := 4) (v := nI (x + 1)) hx hb dd_M_inTheWay_80 hl rfl (nI_1 _) (by decide) rfl (fun ls hl => ?_)
            have hl : lv_has ls 5 [(4, .int (nI (x + 1))), (0, .ref (ra 0)), (1, .int (nI c9)), (2, .int (nI q)), (3, .int (bd_b bar))] := hl
            refine lv_goto (tgt := 3) hx hb dd_M_inTheWay_83 rfl ?_
            exact ih (x + 1) ls (by omega) (by omega) (sp_a_s hn (by simp only [decide_eq_true hx3, h19, h34, Bool.and_true, Bool.true_and, Bool.and_false, Bool.false_and, Bool.or_true, Bool.true_or, Bool.or_false, Bool.false_or, Bool.and_self, Bool.or_self])) (lv_sub hl [1, 2, 3, 4, 0] rfl)
          · refine lv_aload_n hx hb dd_M_inTheWay_37 rfl (lv_at hl 0 rfl) ?_
            refine va_get (D := D) (ci := 4) (v := .ref (ra 3)) (C := rn_M) (T := ft_M) (N := 19) hx hb hts tw_fs_M hown hK hP 0 rfl rfl 3 (by decide) (hts _ tw_fl_M_17) (fun _ h9 => h9) rfl dd_M_inTheWay_38 ?_
            refine lv_iload hx hb dd_M_inTheWay_41 (lv_at hl 4 rfl) ?_
            refine bq_iald hx hb hK hP 2 1 rfl rfl (by omega) (by decide) dd_M_inTheWay_43 ?_
            refine lv_iconst (v := nI 1) hx hb dd_M_inTheWay_44 (by decide) ?_
            refine bq_eq (tgt := 78) hx hb (Nat.lt_of_le_of_lt (hB_3 x) (by decide)) (by decide) dd_M_inTheWay_45 rfl (fun h45 => ?_) (fun h45 => ?_)
            · refine lv_iconst (v := bd_b true) hx hb dd_M_inTheWay_78 (by decide) ?_
              exact W.zret (ty := .boolean) hx hb hr (bd_b_nar _) (fun tt htt hWW => ⟨_, rfl, (by rw [sp_x, sp_a_iff.mpr ⟨x, by omega, by simp only [decide_eq_true hx3, h19, h34, decide_eq_true h45, Bool.and_true, Bool.true_and, Bool.and_false, Bool.false_and, Bool.or_true, Bool.true_or, Bool.or_false, Bool.false_or, Bool.and_self, Bool.or_self]⟩]), htt⟩) (fun _ h => by cases h) dd_M_inTheWay_79
            · refine lv_aload_n hx hb dd_M_inTheWay_48 rfl (lv_at hl 0 rfl) ?_
              refine va_get (D := D) (ci := 4) (v := .ref (ra 14)) (C := rn_M) (T := ft_M) (N := 19) hx hb hts tw_fs_M hown hK hP 0 rfl rfl 14 (by decide) (hts _ tw_fl_M_48) (fun _ h9 => h9) rfl dd_M_inTheWay_49 ?_
              refine lv_iload_n hx hb dd_M_inTheWay_52 rfl (lv_at hl 1 rfl) ?_
              refine bq_zald hx hb hK hP 12 11 rfl rfl hc2 (by decide) dd_M_inTheWay_53 ?_
              refine bq_zeq (tgt := 68) hx hb dd_M_inTheWay_54 rfl (fun h54 => ?_) (fun h54 => ?_)
              · refine lv_iload_n hx hb dd_M_inTheWay_68 rfl (lv_at hl 3 rfl) ?_
                refine bq_zeq (tgt := 80) hx hb dd_M_inTheWay_69 rfl (fun h69 => ?_) (fun h69 => ?_)
                · refine lv_iinc (k := 4) (v := nI (x + 1)) hx hb dd_M_inTheWay_80 hl rfl (nI_1 _) (by decide) rfl (fun ls hl => ?_)
                  have hl : lv_has ls 5 [(4, .int (nI (x + 1))), (0, .ref (ra 0)), (1, .int (nI c9)), (2, .int (nI q)), (3, .int (bd_b bar))] := hl
                  refine lv_goto (tgt := 3) hx hb dd_M_inTheWay_83 rfl ?_
                  exact ih (x + 1) ls (by omega) (by omega) (sp_a_s hn (by simp only [decide_eq_true hx3, h19, h34, decide_eq_false h45, h54, h69, Bool.and_true, Bool.true_and, Bool.and_false, Bool.false_and, Bool.or_true, Bool.true_or, Bool.or_false, Bool.false_or, Bool.and_self, Bool.or_self])) (lv_sub hl [1, 2, 3, 4, 0] rfl)
                · refine lv_iload hx hb dd_M_inTheWay_72 (lv_at hl 4 rfl) ?_
                  refine lv_iload_n hx hb dd_M_inTheWay_74 rfl (lv_at hl 2 rfl) ?_
                  refine bq_ne (tgt := 80) hx hb (by omega) (by omega) dd_M_inTheWay_75 rfl (fun h75 => ?_) (fun h75 => ?_)
                  · refine lv_iinc (k := 4) (v := nI (x + 1)) hx hb dd_M_inTheWay_80 hl rfl (nI_1 _) (by decide) rfl (fun ls hl => ?_)
                    have hl : lv_has ls 5 [(4, .int (nI (x + 1))), (0, .ref (ra 0)), (1, .int (nI c9)), (2, .int (nI q)), (3, .int (bd_b bar))] := hl
                    refine lv_goto (tgt := 3) hx hb dd_M_inTheWay_83 rfl ?_
                    exact ih (x + 1) ls (by omega) (by omega) (sp_a_s hn (by simp only [decide_eq_true hx3, h19, h34, decide_eq_false h45, h54, h69, decide_eq_false h75, Bool.and_true, Bool.true_and, Bool.and_false, Bool.false_and, Bool.or_true, Bool.true_or, Bool.or_false, Bool.false_or, Bool.and_self, Bool.or_self])) (lv_sub hl [1, 2, 3, 4, 0] rfl)
                  · refine lv_iconst (v := bd_b true) hx hb dd_M_inTheWay_78 (by decide) ?_
                    exact W.zret (ty := .boolean) hx hb hr (bd_b_nar _) (fun tt htt hWW => ⟨_, rfl, (by rw [sp_x, sp_a_iff.mpr ⟨x, by omega, by simp only [decide_eq_true hx3, h19, h34, decide_eq_false h45, h54, h69, decide_eq_true h75, Bool.and_true, Bool.true_and, Bool.and_false, Bool.false_and, Bool.or_true, Bool.true_or, Bool.or_false, Bool.false_or, Bool.and_self, Bool.or_self]⟩]), htt⟩) (fun _ h => by cases h) dd_M_inTheWay_79
              · refine lv_aload_n hx hb dd_M_inTheWay_57 rfl (lv_at hl 0 rfl) ?_
                refine va_get (D := D) (ci := 4) (v := .ref (ra 7)) (C := rn_M) (T := ft_M) (N := 19) hx hb hts tw_fs_M hown hK hP 0 rfl rfl 7 (by decide) (hts _ tw_fl_M_26) (fun _ h9 => h9) rfl dd_M_inTheWay_58 ?_
                refine lv_iload_n hx hb dd_M_inTheWay_61 rfl (lv_at hl 1 rfl) ?_
                refine bq_iald hx hb hK hP 5 4 rfl rfl hc2 (by decide) dd_M_inTheWay_62 ?_
                refine lv_iload hx hb dd_M_inTheWay_63 (lv_at hl 4 rfl) ?_
                refine bq_eq (tgt := 78) hx hb (Nat.lt_trans (hB_7 c9) (by decide)) (by omega) dd_M_inTheWay_65 rfl (fun h65 => ?_) (fun h65 => ?_)
                · refine lv_iconst (v := bd_b true) hx hb dd_M_inTheWay_78 (by decide) ?_
                  exact W.zret (ty := .boolean) hx hb hr (bd_b_nar _) (fun tt htt hWW => ⟨_, rfl, (by rw [sp_x, sp_a_iff.mpr ⟨x, by omega, by simp only [decide_eq_true hx3, h19, h34, decide_eq_false h45, h54, decide_eq_true h65, Bool.and_true, Bool.true_and, Bool.and_false, Bool.false_and, Bool.or_true, Bool.true_or, Bool.or_false, Bool.false_or, Bool.and_self, Bool.or_self]⟩]), htt⟩) (fun _ h => by cases h) dd_M_inTheWay_79
                · refine lv_iload_n hx hb dd_M_inTheWay_68 rfl (lv_at hl 3 rfl) ?_
                  refine bq_zeq (tgt := 80) hx hb dd_M_inTheWay_69 rfl (fun h69 => ?_) (fun h69 => ?_)
                  · refine lv_iinc (k := 4) (v := nI (x + 1)) hx hb dd_M_inTheWay_80 hl rfl (nI_1 _) (by decide) rfl (fun ls hl => ?_)
                    have hl : lv_has ls 5 [(4, .int (nI (x + 1))), (0, .ref (ra 0)), (1, .int (nI c9)), (2, .int (nI q)), (3, .int (bd_b bar))] := hl
                    refine lv_goto (tgt := 3) hx hb dd_M_inTheWay_83 rfl ?_
                    exact ih (x + 1) ls (by omega) (by omega) (sp_a_s hn (by simp only [decide_eq_true hx3, h19, h34, decide_eq_false h45, h54, decide_eq_false h65, h69, Bool.and_true, Bool.true_and, Bool.and_false, Bool.false_and, Bool.or_true, Bool.true_or, Bool.or_false, Bool.false_or, Bool.and_self, Bool.or_self])) (lv_sub hl [1, 2, 3, 4, 0] rfl)
                  · refine lv_iload hx hb dd_M_inTheWay_72 (lv_at hl 4 rfl) ?_
                    refine lv_iload_n hx hb dd_M_inTheWay_74 rfl (lv_at hl 2 rfl) ?_
                    refine bq_ne (tgt := 80) hx hb (by omega) (by omega) dd_M_inTheWay_75 rfl (fun h75 => ?_) (fun h75 => ?_)
                    · refine lv_iinc (k := 4) (v := nI (x + 1)) hx hb dd_M_inTheWay_80 hl rfl (nI_1 _) (by decide) rfl (fun ls hl => ?_)
                      have hl : lv_has ls 5 [(4, .int (nI (x + 1))), (0, .ref (ra 0)), (1, .int (nI c9)), (2, .int (nI q)), (3, .int (bd_b bar))] := hl
                      refine lv_goto (tgt := 3) hx hb dd_M_inTheWay_83 rfl ?_
                      exact ih (x + 1) ls (by omega) (by omega) (sp_a_s hn (by simp only [decide_eq_true hx3, h19, h34, decide_eq_false h45, h54, decide_eq_false h65, h69, decide_eq_false h75, Bool.and_true, Bool.true_and, Bool.and_false, Bool.false_and, Bool.or_true, Bool.true_or, Bool.or_false, Bool.false_or, Bool.and_self, Bool.or_self])) (lv_sub hl [1, 2, 3, 4, 0] rfl)
                    · refine lv_iconst (v := bd_b true) hx hb dd_M_inTheWay_78 (by decide) ?_
                      exact W.zret (ty := .boolean) hx hb hr (bd_b_nar _) (fun tt htt hWW => ⟨_, rfl, (by rw [sp_x, sp_a_iff.mpr ⟨x, by omega, by simp only [decide_eq_true hx3, h19, h34, decide_eq_false h45, h54, decide_eq_false h65, h69, decide_eq_true h75, Bool.and_true, Bool.true_and, Bool.and_false, Bool.false_and, Bool.or_true, Bool.true_or, Bool.or_false, Bool.false_or, Bool.and_self, Bool.or_self]⟩]), htt⟩) (fun _ h => by cases h) dd_M_inTheWay_79
  refine lv_iconst (v := nI 3) hx hb dd_M_inTheWay_0 (by decide) ?_
  refine lv_istore hx hb dd_M_inTheWay_1 hl (by decide) rfl (fun ls hl => ?_)
  have hl : lv_has ls 5 [(4, .int (nI 3)), (0, .ref (ra 0)), (1, .int (nI c9)), (2, .int (nI q)), (3, .int (bd_b bar))] := hl
  exact lp (N 1 0 - 3) 3 ls (by omega) (by omega) (by simp [sp_a]) (lv_sub hl [1, 2, 3, 4, 0] rfl)

