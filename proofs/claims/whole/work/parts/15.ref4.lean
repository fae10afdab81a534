/-! Part 15: the reference: accept, line, release, end. By wip/gen/gen_ref4.py. -/
theorem bd_o_s (k : Nat) : bd_o (some k) = nI k := rfl
set_option maxHeartbeats 4000000 in
set_option maxRecDepth 100000 in
theorem rc_accept (l : Launch) (D : va_G) (ra : Nat → Nat) (ca : Nat → ClassId) (hJ : rf_J ra) (N : sp_N) (O : sp_O) (Z : sp_Z) (B : sp_B)  (h6l : N 6 0 < 160) (q : Nat) (bar : Bool) (hq : q < 12) : Met l my_M_accept (Cond.code my_M_accept cd_M_accept 4 (some .int) :: bg_tbl) ({ frames := 0, cells := 0, slots := 0, locals := 0 }) (va_Pc [.ref (ra 0), .int (nI q), .int (bd_b bar)] (rf_U D ra ca N O Z B)) (va_Qi (fun r (_ : Unit) => r = nI (N 6 0)) (fun _ uu => rf_U D ra ca (sp_AN N q) (sp_AO N O) Z (sp_AB N B q bar) uu) (rf_A ra)) 0 0 (rf_A ra) := by
  refine Met.ofW (cc := cd_M_accept) (maxL := 4) (ret := (some .int)) (by decide) rfl ?_
  intro p e s m args below meth c s₁ BB hml hv
  obtain ⟨rfl, hP, hK⟩ := hv
  have hx := BB.exec
  have hb := BB.bytes
  have hr := BB.returns
  have hts : ∀ w ∈ bg_tbl, w.before ([.ref (ra 0), .int (nI q), .int (bd_b bar)] : List Value).toArray s = true := fun w h => atoms_spec (ws := (Cond.code my_M_accept cd_M_accept 4 (some .int) :: bg_tbl)) BB.pre w (List.mem_cons_of_mem _ h)
  have hown : s.vm.findClass rn_M = some m.cls := findClass_of_methodNamed BB.named
  have hlocks := BB.notSynchronized
  have hS : va_S (rf_A ra) s.heap s.heap [] := va_S.rf
  have hl := lv_entry ([.ref (ra 0), .int (nI q), .int (bd_b bar)]) (n := 4) (Nat.le_of_ble_eq_true rfl)
  rw [lg_entry_eq]
  generalize (lg_sl ([.ref (ra 0), .int (nI q), .int (bd_b bar)]) ++ List.replicate (4 - (lg_sl ([.ref (ra 0), .int (nI q), .int (bd_b bar)])).length) Slot.unset).toArray = ls at hl ⊢
  have hl : lv_has ls 4 [(0, .ref (ra 0)), (1, .int (nI q)), (2, .int (bd_b bar))] := hl
  refine lv_aload_n hx hb dd_M_accept_0 rfl (lv_at hl 0 rfl) ?_
  refine va_get (D := D) (ci := 4) (v := .int (nI (N 6 0))) (C := rn_M) (T := ft_M) (N := 19) hx hb hts tw_fs_M hown hK hP 0 rfl rfl 6 (by decide) (hts _ tw_fl_M_61) (fun _ h9 => h9) rfl dd_M_accept_1 ?_
  refine lv_istore_n hx hb dd_M_accept_4 rfl hl (by decide) rfl (fun ls hl => ?_)
  have hl : lv_has ls 4 [(3, .int (nI (N 6 0))), (0, .ref (ra 0)), (1, .int (nI q)), (2, .int (bd_b bar))] := hl
  refine lv_aload_n hx hb dd_M_accept_5 rfl (lv_at hl 1 rfl) ?_
  refine lv_aload_n hx hb dd_M_accept_6 rfl (lv_at hl 1 rfl) ?_
  refine va_get (D := D) (ci := 4) (v := .int (nI (N 6 0))) (C := rn_M) (T := ft_M) (N := 19) hx hb hts tw_fs_M hown hK hP 0 rfl rfl 6 (by decide) (hts _ tw_fl_M_61) (fun _ h9 => h9) rfl dd_M_accept_7 ?_
  refine lv_iconst (v := nI 1) hx hb dd_M_accept_10 (by decide) ?_
  refine lv_iadd hx hb dd_M_accept_11 ?_
  rw [nI_add]
  refine va_put (D := D) (ci := 4) (v := .int (nI ((N 6 0) + 1))) (ty := .int) (C := rn_M) (T := ft_M) (N := 19) hx hb hts tw_fs_M fy_M fo_M fn_M hown hK hP (rf_D hJ ca N O Z B) hS 0 rfl rfl 6 (by decide) (hts _ tw_fl_M_61) (fun _ h9 => h9) rfl (by decide +kernel) rfl rfl (Nat.le_of_ble_eq_true rfl) dd_M_accept_12 (fun H locs hP _ hS => ?_)
  have hP : va_P D vw_cl (rf_W ra ca (sp_u N 6 0 ((N 6 0) + 1)) O Z B) H := hP
  refine lv_aload_n hx hb dd_M_accept_15 rfl (lv_at hl 1 rfl) ?_
  refine va_get (D := D) (ci := 4) (v := .ref (ra 7)) (C := rn_M) (T := ft_M) (N := 19) hx hb hts tw_fs_M hown hK hP 0 rfl rfl 7 (by decide) (hts _ tw_fl_M_26) (fun _ h9 => h9) rfl dd_M_accept_16 ?_
  refine lv_iload_n hx hb dd_M_accept_19 rfl (lv_at hl 0 rfl) ?_
  refine lv_iload_n hx hb dd_M_accept_20 rfl (lv_at hl 2 rfl) ?_
  refine bq_iast hx hb hK hP (rf_D hJ ca (sp_u N 6 0 ((N 6 0) + 1)) O Z B) hS 5 4 rfl rfl h6l (by decide) dd_M_accept_21 (fun H locs hP _ hS => ?_)
  have hP : va_P D vw_cl (rf_W ra ca (sp_u (sp_u N 6 0 ((N 6 0) + 1)) 7 (N 6 0) q) O Z B) H := hP
  refine lv_aload_n hx hb dd_M_accept_22 rfl (lv_at hl 1 rfl) ?_
  refine va_get (D := D) (ci := 4) (v := .ref (ra 8)) (C := rn_M) (T := ft_M) (N := 19) hx hb hts tw_fs_M hown hK hP 0 rfl rfl 8 (by decide) (hts _ tw_fl_M_29) (fun _ h9 => h9) rfl dd_M_accept_23 ?_
  refine lv_iload_n hx hb dd_M_accept_26 rfl (lv_at hl 0 rfl) ?_
  refine lv_iconst (v := nI 1) hx hb dd_M_accept_27 (by decide) ?_
  refine bq_iast hx hb hK hP (rf_D hJ ca (sp_u (sp_u N 6 0 ((N 6 0) + 1)) 7 (N 6 0) q) O Z B) hS 6 5 rfl rfl h6l (by decide) dd_M_accept_28 (fun H locs hP _ hS => ?_)
  have hP : va_P D vw_cl (rf_W ra ca (sp_u (sp_u (sp_u N 6 0 ((N 6 0) + 1)) 7 (N 6 0) q) 8 (N 6 0) 1) O Z B) H := hP
  refine lv_aload_n hx hb dd_M_accept_29 rfl (lv_at hl 1 rfl) ?_
  refine va_get (D := D) (ci := 4) (v := .ref (ra 9)) (C := rn_M) (T := ft_M) (N := 19) hx hb hts tw_fs_M hown hK hP 0 rfl rfl 9 (by decide) (hts _ tw_fl_M_32) (fun _ h9 => h9) rfl dd_M_accept_30 ?_
  refine lv_iload_n hx hb dd_M_accept_33 rfl (lv_at hl 0 rfl) ?_
  refine lv_iconst (v := bd_o none) hx hb dd_M_accept_34 (by decide) ?_
  refine bq_oast (v := none) hx hb hK hP (rf_D hJ ca (sp_u (sp_u (sp_u N 6 0 ((N 6 0) + 1)) 7 (N 6 0) q) 8 (N 6 0) 1) O Z B) hS 7 6 rfl rfl h6l (by decide) dd_M_accept_35 (fun H locs hP _ hS => ?_)
  have hP : va_P D vw_cl (rf_W ra ca (sp_u (sp_u (sp_u N 6 0 ((N 6 0) + 1)) 7 (N 6 0) q) 8 (N 6 0) 1) (sp_u O 9 (N 6 0) none) Z B) H := hP
  refine lv_aload_n hx hb dd_M_accept_36 rfl (lv_at hl 1 rfl) ?_
  refine va_get (D := D) (ci := 4) (v := .ref (ra 10)) (C := rn_M) (T := ft_M) (N := 19) hx hb hts tw_fs_M hown hK hP 0 rfl rfl 10 (by decide) (hts _ tw_fl_M_35) (fun _ h9 => h9) rfl dd_M_accept_37 ?_
  refine lv_iload_n hx hb dd_M_accept_40 rfl (lv_at hl 0 rfl) ?_
  refine lv_iconst (v := bd_o none) hx hb dd_M_accept_41 (by decide) ?_
  refine bq_oast (v := none) hx hb hK hP (rf_D hJ ca (sp_u (sp_u (sp_u N 6 0 ((N 6 0) + 1)) 7 (N 6 0) q) 8 (N 6 0) 1) (sp_u O 9 (N 6 0) none) Z B) hS 8 7 rfl rfl h6l (by decide) dd_M_accept_42 (fun H locs hP _ hS => ?_)
  have hP : va_P D vw_cl (rf_W ra ca (sp_u (sp_u (sp_u N 6 0 ((N 6 0) + 1)) 7 (N 6 0) q) 8 (N 6 0) 1) (sp_u (sp_u O 9 (N 6 0) none) 10 (N 6 0) none) Z B) H := hP
  refine lv_aload_n hx hb dd_M_accept_43 rfl (lv_at hl 1 rfl) ?_
  refine va_get (D := D) (ci := 4) (v := .ref (ra 11)) (C := rn_M) (T := ft_M) (N := 19) hx hb hts tw_fs_M hown hK hP 0 rfl rfl 11 (by decide) (hts _ tw_fl_M_38) (fun _ h9 => h9) rfl dd_M_accept_44 ?_
  refine lv_iload_n hx hb dd_M_accept_47 rfl (lv_at hl 0 rfl) ?_
  refine lv_iconst (v := bd_o none) hx hb dd_M_accept_48 (by decide) ?_
  refine bq_oast (v := none) hx hb hK hP (rf_D hJ ca (sp_u (sp_u (sp_u N 6 0 ((N 6 0) + 1)) 7 (N 6 0) q) 8 (N 6 0) 1) (sp_u (sp_u O 9 (N 6 0) none) 10 (N 6 0) none) Z B) hS 9 8 rfl rfl h6l (by decide) dd_M_accept_49 (fun H locs hP _ hS => ?_)
  have hP : va_P D vw_cl (rf_W ra ca (sp_u (sp_u (sp_u N 6 0 ((N 6 0) + 1)) 7 (N 6 0) q) 8 (N 6 0) 1) (sp_u (sp_u (sp_u O 9 (N 6 0) none) 10 (N 6 0) none) 11 (N 6 0) none) Z B) H := hP
  refine lv_aload_n hx hb dd_M_accept_50 rfl (lv_at hl 1 rfl) ?_
  refine va_get (D := D) (ci := 4) (v := .ref (ra 14)) (C := rn_M) (T := ft_M) (N := 19) hx hb hts tw_fs_M hown hK hP 0 rfl rfl 14 (by decide) (hts _ tw_fl_M_48) (fun _ h9 => h9) rfl dd_M_accept_51 ?_
  refine lv_iload_n hx hb dd_M_accept_54 rfl (lv_at hl 0 rfl) ?_
  refine lv_iload_n hx hb dd_M_accept_55 rfl (lv_at hl 3 rfl) ?_
  refine bq_zeq (tgt := 68) hx hb dd_M_accept_56 rfl (fun h56 => ?_) (fun h56 => ?_)
  · refine lv_iconst (v := bd_b false) hx hb dd_M_accept_68 (by decide) ?_
    refine bq_zast hx hb hK hP (rf_D hJ ca (sp_u (sp_u (sp_u N 6 0 ((N 6 0) + 1)) 7 (N 6 0) q) 8 (N 6 0) 1) (sp_u (sp_u (sp_u O 9 (N 6 0) none) 10 (N 6 0) none) 11 (N 6 0) none) Z B) hS 12 11 rfl rfl h6l (by decide) dd_M_accept_69 (fun H locs hP _ hS => ?_)
    have hP : va_P D vw_cl (rf_W ra ca (sp_u (sp_u (sp_u N 6 0 ((N 6 0) + 1)) 7 (N 6 0) q) 8 (N 6 0) 1) (sp_u (sp_u (sp_u O 9 (N 6 0) none) 10 (N 6 0) none) 11 (N 6 0) none) Z (sp_u B 14 (N 6 0) false)) H := hP
    refine lv_iload_n hx hb dd_M_accept_70 rfl (lv_at hl 0 rfl) ?_
    have eN : sp_AN N q = sp_u (sp_u (sp_u N 6 0 ((N 6 0) + 1)) 7 (N 6 0) q) 8 (N 6 0) 1 := by rfl
    have eO : sp_AO N O = sp_u (sp_u (sp_u O 9 (N 6 0) none) 10 (N 6 0) none) 11 (N 6 0) none := by rfl
    have eB : sp_AB N B q bar = sp_u B 14 (N 6 0) false := by simp [sp_AB, h56]
    exact W.iret hx hb hr (fun tt htt hWW => ⟨⟨_, (), rfl, rfl, by rw [htt, eN, eO, eB]; exact hP, va_K.moved hWW.alike hK⟩, hS.F htt⟩) hS.2.2 dd_M_accept_71
  · refine lv_iload_n hx hb dd_M_accept_59 rfl (lv_at hl 2 rfl) ?_
    refine lv_iconst (v := nI 3) hx hb dd_M_accept_60 (by decide) ?_
    refine bq_lt (tgt := 68) hx hb (by omega) (by decide) dd_M_accept_61 rfl (fun h61 => ?_) (fun h61 => ?_)
    · refine lv_iconst (v := bd_b false) hx hb dd_M_accept_68 (by decide) ?_
      refine bq_zast hx hb hK hP (rf_D hJ ca (sp_u (sp_u (sp_u N 6 0 ((N 6 0) + 1)) 7 (N 6 0) q) 8 (N 6 0) 1) (sp_u (sp_u (sp_u O 9 (N 6 0) none) 10 (N 6 0) none) 11 (N 6 0) none) Z B) hS 12 11 rfl rfl h6l (by decide) dd_M_accept_69 (fun H locs hP _ hS => ?_)
      have hP : va_P D vw_cl (rf_W ra ca (sp_u (sp_u (sp_u N 6 0 ((N 6 0) + 1)) 7 (N 6 0) q) 8 (N 6 0) 1) (sp_u (sp_u (sp_u O 9 (N 6 0) none) 10 (N 6 0) none) 11 (N 6 0) none) Z (sp_u B 14 (N 6 0) false)) H := hP
      refine lv_iload_n hx hb dd_M_accept_70 rfl (lv_at hl 0 rfl) ?_
      have eN : sp_AN N q = sp_u (sp_u (sp_u N 6 0 ((N 6 0) + 1)) 7 (N 6 0) q) 8 (N 6 0) 1 := by rfl
      have eO : sp_AO N O = sp_u (sp_u (sp_u O 9 (N 6 0) none) 10 (N 6 0) none) 11 (N 6 0) none := by rfl
      have eB : sp_AB N B q bar = sp_u B 14 (N 6 0) false := by simp [sp_AB, h56, h61, Nat.not_le.mpr h61]
      exact W.iret hx hb hr (fun tt htt hWW => ⟨⟨_, (), rfl, rfl, by rw [htt, eN, eO, eB]; exact hP, va_K.moved hWW.alike hK⟩, hS.F htt⟩) hS.2.2 dd_M_accept_71
    · refine lv_iconst (v := bd_b true) hx hb dd_M_accept_64 (by decide) ?_
      refine lv_goto (tgt := 69) hx hb dd_M_accept_65 rfl ?_
      refine bq_zast hx hb hK hP (rf_D hJ ca (sp_u (sp_u (sp_u N 6 0 ((N 6 0) + 1)) 7 (N 6 0) q) 8 (N 6 0) 1) (sp_u (sp_u (sp_u O 9 (N 6 0) none) 10 (N 6 0) none) 11 (N 6 0) none) Z B) hS 12 11 rfl rfl h6l (by decide) dd_M_accept_69 (fun H locs hP _ hS => ?_)
      have hP : va_P D vw_cl (rf_W ra ca (sp_u (sp_u (sp_u N 6 0 ((N 6 0) + 1)) 7 (N 6 0) q) 8 (N 6 0) 1) (sp_u (sp_u (sp_u O 9 (N 6 0) none) 10 (N 6 0) none) 11 (N 6 0) none) Z (sp_u B 14 (N 6 0) true)) H := hP
      refine lv_iload_n hx hb dd_M_accept_70 rfl (lv_at hl 0 rfl) ?_
      have eN : sp_AN N q = sp_u (sp_u (sp_u N 6 0 ((N 6 0) + 1)) 7 (N 6 0) q) 8 (N 6 0) 1 := by rfl
      have eO : sp_AO N O = sp_u (sp_u (sp_u O 9 (N 6 0) none) 10 (N 6 0) none) 11 (N 6 0) none := by rfl
      have eB : sp_AB N B q bar = sp_u B 14 (N 6 0) true := by simp [sp_AB, h56, h61, Nat.not_lt.mpr h61]
      exact W.iret hx hb hr (fun tt htt hWW => ⟨⟨_, (), rfl, rfl, by rw [htt, eN, eO, eB]; exact hP, va_K.moved hWW.alike hK⟩, hS.F htt⟩) hS.2.2 dd_M_accept_71

set_option maxHeartbeats 4000000 in
set_option maxRecDepth 100000 in
theorem rc_line (l : Launch) (D : va_G) (ra : Nat → Nat) (ca : Nat → ClassId) (hJ : rf_J ra) (N : sp_N) (O : sp_O) (Z : sp_Z) (B : sp_B)  (t : Nat) (ht : t < 160) : Met l my_M_line (Cond.code my_M_line cd_M_line 2 none :: bg_tbl) ({ frames := 0, cells := 0, slots := 0, locals := 0 }) (va_Pc [.ref (ra 0), .int (nI t)] (rf_U D ra ca N O Z B)) (va_Qv (fun (_ : Unit) => True) (fun _ uu => rf_U D ra ca (sp_L N t) O Z B uu) (rf_A ra)) 0 0 (rf_A ra) := by
  refine Met.ofW (cc := cd_M_line) (maxL := 2) (ret := none) (by decide) rfl ?_
  intro p e s m args below meth c s₁ BB hml hv
  obtain ⟨rfl, hP, hK⟩ := hv
  have hx := BB.exec
  have hb := BB.bytes
  have hr := BB.returns
  have hts : ∀ w ∈ bg_tbl, w.before ([.ref (ra 0), .int (nI t)] : List Value).toArray s = true := fun w h => atoms_spec (ws := (Cond.code my_M_line cd_M_line 2 none :: bg_tbl)) BB.pre w (List.mem_cons_of_mem _ h)
  have hown : s.vm.findClass rn_M = some m.cls := findClass_of_methodNamed BB.named
  have hlocks := BB.notSynchronized
  have hS : va_S (rf_A ra) s.heap s.heap [] := va_S.rf
  have hl := lv_entry ([.ref (ra 0), .int (nI t)]) (n := 2) (Nat.le_of_ble_eq_true rfl)
  rw [lg_entry_eq]
  generalize (lg_sl ([.ref (ra 0), .int (nI t)]) ++ List.replicate (2 - (lg_sl ([.ref (ra 0), .int (nI t)])).length) Slot.unset).toArray = ls at hl ⊢
  have hl : lv_has ls 2 [(0, .ref (ra 0)), (1, .int (nI t))] := hl
  refine lv_aload_n hx hb dd_M_line_0 rfl (lv_at hl 0 rfl) ?_
  refine va_get (D := D) (ci := 4) (v := .ref (ra 8)) (C := rn_M) (T := ft_M) (N := 19) hx hb hts tw_fs_M hown hK hP 0 rfl rfl 8 (by decide) (hts _ tw_fl_M_29) (fun _ h9 => h9) rfl dd_M_line_1 ?_
  refine lv_iload_n hx hb dd_M_line_4 rfl (lv_at hl 1 rfl) ?_
  refine lv_iconst (v := nI 2) hx hb dd_M_line_5 (by decide) ?_
  refine bq_iast hx hb hK hP (rf_D hJ ca N O Z B) hS 6 5 rfl rfl ht (by decide) dd_M_line_6 (fun H locs hP _ hS => ?_)
  have hP : va_P D vw_cl (rf_W ra ca (sp_u N 8 t 2) O Z B) H := hP
  refine lv_aload_n hx hb dd_M_line_7 rfl (lv_at hl 0 rfl) ?_
  refine va_get (D := D) (ci := 4) (v := .ref (ra 12)) (C := rn_M) (T := ft_M) (N := 19) hx hb hts tw_fs_M hown hK hP 0 rfl rfl 12 (by decide) (hts _ tw_fl_M_41) (fun _ h9 => h9) rfl dd_M_line_8 ?_
  refine lv_iload_n hx hb dd_M_line_11 rfl (lv_at hl 1 rfl) ?_
  refine lv_aload_n hx hb dd_M_line_12 rfl (lv_at hl 0 rfl) ?_
  refine va_get (D := D) (ci := 4) (v := .int (nI (N 16 0))) (C := rn_M) (T := ft_M) (N := 19) hx hb hts tw_fs_M hown hK hP 0 rfl rfl 16 (by decide) (hts _ tw_fl_M_89) (fun _ h9 => h9) rfl dd_M_line_13 ?_
  refine bq_iast hx hb hK hP (rf_D hJ ca (sp_u N 8 t 2) O Z B) hS 10 9 rfl rfl ht (by decide) dd_M_line_16 (fun H locs hP _ hS => ?_)
  have hP : va_P D vw_cl (rf_W ra ca (sp_u (sp_u N 8 t 2) 12 t (N 16 0)) O Z B) H := hP
  refine lv_aload_n hx hb dd_M_line_17 rfl (lv_at hl 0 rfl) ?_
  refine lv_aload_n hx hb dd_M_line_18 rfl (lv_at hl 0 rfl) ?_
  refine va_get (D := D) (ci := 4) (v := .int (nI (N 16 0))) (C := rn_M) (T := ft_M) (N := 19) hx hb hts tw_fs_M hown hK hP 0 rfl rfl 16 (by decide) (hts _ tw_fl_M_89) (fun _ h9 => h9) rfl dd_M_line_19 ?_
  refine lv_iconst (v := nI 1) hx hb dd_M_line_22 (by decide) ?_
  refine lv_iadd hx hb dd_M_line_23 ?_
  rw [nI_add]
  refine va_put (D := D) (ci := 4) (v := .int (nI ((N 16 0) + 1))) (ty := .int) (C := rn_M) (T := ft_M) (N := 19) hx hb hts tw_fs_M fy_M fo_M fn_M hown hK hP (rf_D hJ ca (sp_u (sp_u N 8 t 2) 12 t (N 16 0)) O Z B) hS 0 rfl rfl 16 (by decide) (hts _ tw_fl_M_89) (fun _ h9 => h9) rfl (by decide +kernel) rfl rfl (Nat.le_of_ble_eq_true rfl) dd_M_line_24 (fun H locs hP _ hS => ?_)
  have hP : va_P D vw_cl (rf_W ra ca (sp_u (sp_u (sp_u N 8 t 2) 12 t (N 16 0)) 16 0 ((N 16 0) + 1)) O Z B) H := hP
  have eN : sp_L N t = sp_u (sp_u (sp_u N 8 t 2) 12 t (N 16 0)) 16 0 ((N 16 0) + 1) := by rfl
  exact W.vret hx hb hr (fun tt htt hWW => ⟨⟨(), rfl, trivial, by rw [htt, eN]; exact hP, va_K.moved hWW.alike hK⟩, hS.F htt⟩) hS.2.2 dd_M_line_27

theorem sp_L_8 (N : sp_N) (t j : Nat) : sp_L N t 8 j = if j = t then 2 else N 8 j := by
  show sp_u N 8 t 2 8 j = _
  rw [sp_u_app]
  simp
set_option maxHeartbeats 4000000 in
set_option maxRecDepth 100000 in
theorem rc_release (l : Launch) (D : va_G) (ra : Nat → Nat) (ca : Nat → ClassId) (hJ : rf_J ra) (N : sp_N) (O : sp_O) (Z : sp_Z) (B : sp_B) (hB : sp_Bd N O) (g : Nat) (hg : g < 4) : Met l my_M_release (Cond.code my_M_release cd_M_release 3 none :: bg_tbl) ({ frames := 1, cells := 0, slots := 0, locals := 23 }) (va_Pc [.ref (ra 0), .int (nI g)] (rf_U D ra ca N O Z B)) (va_Qv (fun (_ : Unit) => True) (fun _ uu => rf_U D ra ca (sp_S N O g) O Z B uu) (rf_A ra)) 0 0 (rf_A ra) := by
  refine Met.ofW (cc := cd_M_release) (maxL := 3) (ret := none) (by decide) rfl ?_
  intro p e s m args below meth c s₁ BB hml hv
  obtain ⟨rfl, hP, hK⟩ := hv
  have hx := BB.exec
  have hb := BB.bytes
  have hr := BB.returns
  have hts : ∀ w ∈ bg_tbl, w.before ([.ref (ra 0), .int (nI g)] : List Value).toArray s = true := fun w h => atoms_spec (ws := (Cond.code my_M_release cd_M_release 3 none :: bg_tbl)) BB.pre w (List.mem_cons_of_mem _ h)
  have hown : s.vm.findClass rn_M = some m.cls := findClass_of_methodNamed BB.named
  have hlocks := BB.notSynchronized
  obtain ⟨hB_0, hB_1, hB_2, hB_3, hB_4, hB_5, hB_6, hB_7, hB_8, hB_9, hB_10, hB_11, hB_12, hB_17⟩ := id hB
  have hS : va_S (rf_A ra) s.heap s.heap [] := va_S.rf
  have hl := lv_entry ([.ref (ra 0), .int (nI g)]) (n := 3) (Nat.le_of_ble_eq_true rfl)
  rw [lg_entry_eq]
  generalize (lg_sl ([.ref (ra 0), .int (nI g)]) ++ List.replicate (3 - (lg_sl ([.ref (ra 0), .int (nI g)])).length) Slot.unset).toArray = ls at hl ⊢
  have hl : lv_has ls 3 [(0, .ref (ra 0)), (1, .int (nI g))] := hl
  by_cases h0 : 0 < sp_g N O g
  · skip
    refine lv_aload_n hx hb dd_M_release_0 rfl (lv_at hl 0 rfl) ?_
    refine lv_iload_n hx hb dd_M_release_1 rfl (lv_at hl 1 rfl) ?_
    refine rf_calli (As := [.int (nI g)]) (rest := []) (v := nI (sp_g N O g)) ⟨hx, hb, hml, hown, hts⟩ (rc_countOf l D ra ca N O Z B hB g hg) (bg_cwV 1 hts tw_ml_M_92 tw_im_M_countOf tw_se_M_countOf tw_in_M tw_co_M_countOf rfl rfl th_M_countOf ⟨Nat.le_of_ble_eq_true rfl, Nat.le_of_ble_eq_true rfl⟩) hK hP rfl hl.1 rfl (by decide) dd_M_release_2 ⟨Nat.zero_le _, Nat.zero_le _⟩ ?_
    refine bq_nle (tgt := 9) hx hb (by have h9 := sp_c_le (fun t => decide (O 10 t = some g) && decide (N 8 t < 5)) (N 6 0); have h8 := hB_17 g; unfold sp_g; omega) dd_M_release_5 rfl (fun h5 => ?_) (fun h5 => ?_)
    · exact absurd h5 (by omega)
    · have eN : sp_S N O g = N := by rw [sp_S, if_pos h5]
      exact W.vret hx hb hr (fun tt htt hWW => ⟨⟨(), rfl, trivial, by rw [htt, eN]; exact hP, va_K.moved hWW.alike hK⟩, hS.F htt⟩) hS.2.2 dd_M_release_8
  · skip
    have lp : ∀ (n : Nat) (t : Nat) (M : sp_N) (ls : Array Slot) (H : Heap) (locs : List Loc), (n + t = N 6 0) → (M = sp_R N O g t) → (M 6 0 = N 6 0) → (∀ j, M 8 j < 7) →  va_P D vw_cl (rf_W ra ca M O Z B) H → va_S (rf_A ra) s.heap H locs → lv_has ls 3 [(0, .ref (ra 0)), (1, .int (nI g)), (2, .int (nI t))] → W p l e (headSpec (Cond.code my_M_release cd_M_release 3 none :: bg_tbl) ({ frames := 1, cells := 0, slots := 0, locals := 23 })).room s m ([.ref (ra 0), .int (nI g)] : List Value).toArray below meth c H locs 0 0 (MQ below (va_Qv (fun (_ : Unit) => True) (fun _ uu => rf_U D ra ca (sp_S N O g) O Z B uu) (rf_A ra)) ([.ref (ra 0), .int (nI g)] : List Value).toArray s 0 0 (rf_A ra)) (F0 m 11 ls []) := by
      intro n
      induction n with
      | zero =>
        intro t M ls H locs hk hM h6 h8 hP hS hl
        refine lv_iload_n hx hb dd_M_release_11 rfl (lv_at hl 2 rfl) ?_
        refine lv_aload_n hx hb dd_M_release_12 rfl (lv_at hl 0 rfl) ?_
        refine va_get (D := D) (ci := 4) (v := .int (nI (M 6 0))) (C := rn_M) (T := ft_M) (N := 19) hx hb hts tw_fs_M hown hK hP 0 rfl rfl 6 (by decide) (hts _ tw_fl_M_61) (fun _ h9 => h9) rfl dd_M_release_13 ?_
        refine bq_ge (tgt := 49) hx hb (by omega) (by omega) dd_M_release_16 rfl (fun h16 => ?_) (fun h16 => ?_)
        · have eN : sp_S N O g = M := by rw [sp_S, if_neg (by omega), hM, show t = N 6 0 by omega]
          exact W.vret hx hb hr (fun tt htt hWW => ⟨⟨(), rfl, trivial, by rw [htt, eN]; exact hP, va_K.moved hWW.alike hK⟩, hS.F htt⟩) hS.2.2 dd_M_release_49
        · exact absurd h16 (by omega)
      | succ n ih =>
        intro t M ls H locs hk hM h6 h8 hP hS hl
        refine lv_iload_n hx hb dd_M_release_11 rfl (lv_at hl 2 rfl) ?_
        refine lv_aload_n hx hb dd_M_release_12 rfl (lv_at hl 0 rfl) ?_
        refine va_get (D := D) (ci := 4) (v := .int (nI (M 6 0))) (C := rn_M) (T := ft_M) (N := 19) hx hb hts tw_fs_M hown hK hP 0 rfl rfl 6 (by decide) (hts _ tw_fl_M_61) (fun _ h9 => h9) rfl dd_M_release_13 ?_
        refine bq_ge (tgt := 49) hx hb (by omega) (by omega) dd_M_release_16 rfl (fun h16 => ?_) (fun h16 => ?_)
        · exact absurd h16 (by omega)
        · refine lv_aload_n hx hb dd_M_release_19 rfl (lv_at hl 0 rfl) ?_
          refine va_get (D := D) (ci := 4) (v := .ref (ra 8)) (C := rn_M) (T := ft_M) (N := 19) hx hb hts tw_fs_M hown hK hP 0 rfl rfl 8 (by decide) (hts _ tw_fl_M_29) (fun _ h9 => h9) rfl dd_M_release_20 ?_
          refine lv_iload_n hx hb dd_M_release_23 rfl (lv_at hl 2 rfl) ?_
          refine bq_iald hx hb hK hP 6 5 rfl rfl (by omega) (by decide) dd_M_release_24 ?_
          refine bq_nne (tgt := 43) hx hb (Nat.lt_trans (h8 t) (by decide)) dd_M_release_25 rfl (fun h25 => ?_) (fun h25 => ?_)
          · refine lv_iinc (k := 2) (v := nI (t + 1)) hx hb dd_M_release_43 hl rfl (nI_1 _) (by decide) rfl (fun ls hl => ?_)
            have hl : lv_has ls 3 [(2, .int (nI (t + 1))), (0, .ref (ra 0)), (1, .int (nI g))] := hl
            refine lv_goto (tgt := 11) hx hb dd_M_release_46 rfl ?_
            exact ih (t + 1) M ls H locs (by omega) (by rw [hM, sp_R, ← hM]; simp [h16, Nat.not_le.mpr h16, h25]) h6 h8 hP hS (lv_sub hl [1, 2, 0] rfl)
          · refine lv_aload_n hx hb dd_M_release_28 rfl (lv_at hl 0 rfl) ?_
            refine va_get (D := D) (ci := 4) (v := .ref (ra 11)) (C := rn_M) (T := ft_M) (N := 19) hx hb hts tw_fs_M hown hK hP 0 rfl rfl 11 (by decide) (hts _ tw_fl_M_38) (fun _ h9 => h9) rfl dd_M_release_29 ?_
            refine lv_iload_n hx hb dd_M_release_32 rfl (lv_at hl 2 rfl) ?_
            refine bq_iald hx hb hK hP 9 8 rfl rfl (by omega) (by decide) dd_M_release_33 ?_
            refine lv_iload_n hx hb dd_M_release_34 rfl (lv_at hl 1 rfl) ?_
            refine bq_one (tgt := 43) hx hb (fun k hk => Nat.lt_trans (hB_11 _ k hk) (by decide)) (by omega) dd_M_release_35 rfl (fun h35 => ?_) (fun h35 => ?_)
            · refine lv_iinc (k := 2) (v := nI (t + 1)) hx hb dd_M_release_43 hl rfl (nI_1 _) (by decide) rfl (fun ls hl => ?_)
              have hl : lv_has ls 3 [(2, .int (nI (t + 1))), (0, .ref (ra 0)), (1, .int (nI g))] := hl
              refine lv_goto (tgt := 11) hx hb dd_M_release_46 rfl ?_
              exact ih (t + 1) M ls H locs (by omega) (by rw [hM, sp_R, ← hM]; simp [h16, Nat.not_le.mpr h16, h25, h35]) h6 h8 hP hS (lv_sub hl [1, 2, 0] rfl)
            · refine lv_aload_n hx hb dd_M_release_38 rfl (lv_at hl 0 rfl) ?_
              refine lv_iload_n hx hb dd_M_release_39 rfl (lv_at hl 2 rfl) ?_
              refine rf_callwv (As := [.int (nI t)]) (rest := []) ⟨hx, hb, hml, hown, hts⟩ (rc_line l D ra ca hJ M O Z B t (by omega)) (bg_cwV 1 hts tw_ml_M_95 tw_im_M_line tw_se_M_line tw_in_M tw_co_M_line rfl rfl th_M_line ⟨Nat.le_of_ble_eq_true rfl, Nat.le_of_ble_eq_true rfl⟩) hK hP hS rfl hl.1 rfl (by decide) dd_M_release_40 ⟨Nat.zero_le _, Nat.zero_le _⟩ (fun H locs hP hS => ?_)
              refine lv_iinc (k := 2) (v := nI (t + 1)) hx hb dd_M_release_43 hl rfl (nI_1 _) (by decide) rfl (fun ls hl => ?_)
              have hl : lv_has ls 3 [(2, .int (nI (t + 1))), (0, .ref (ra 0)), (1, .int (nI g))] := hl
              refine lv_goto (tgt := 11) hx hb dd_M_release_46 rfl ?_
              exact ih (t + 1) (sp_L M t) ls H locs (by omega) (by rw [sp_R, ← hM]; simp [h16, Nat.not_le.mpr h16, h25, h35]) h6 (fun j => by rw [sp_L_8]; split; decide; exact h8 j) hP hS (lv_sub hl [1, 2, 0] rfl)
    refine lv_aload_n hx hb dd_M_release_0 rfl (lv_at hl 0 rfl) ?_
    refine lv_iload_n hx hb dd_M_release_1 rfl (lv_at hl 1 rfl) ?_
    refine rf_calli (As := [.int (nI g)]) (rest := []) (v := nI (sp_g N O g)) ⟨hx, hb, hml, hown, hts⟩ (rc_countOf l D ra ca N O Z B hB g hg) (bg_cwV 1 hts tw_ml_M_92 tw_im_M_countOf tw_se_M_countOf tw_in_M tw_co_M_countOf rfl rfl th_M_countOf ⟨Nat.le_of_ble_eq_true rfl, Nat.le_of_ble_eq_true rfl⟩) hK hP rfl hl.1 rfl (by decide) dd_M_release_2 ⟨Nat.zero_le _, Nat.zero_le _⟩ ?_
    refine bq_nle (tgt := 9) hx hb (by have h9 := sp_c_le (fun t => decide (O 10 t = some g) && decide (N 8 t < 5)) (N 6 0); have h8 := hB_17 g; unfold sp_g; omega) dd_M_release_5 rfl (fun h5 => ?_) (fun h5 => ?_)
    · refine lv_iconst (v := nI 0) hx hb dd_M_release_9 (by decide) ?_
      refine lv_istore_n hx hb dd_M_release_10 rfl hl (by decide) rfl (fun ls hl => ?_)
      have hl : lv_has ls 3 [(2, .int (nI 0)), (0, .ref (ra 0)), (1, .int (nI g))] := hl
      exact lp (N 6 0) 0 N ls _ _ (by omega) rfl rfl hB_8 hP hS (lv_sub hl [1, 2, 0] rfl)
    · exact absurd h5 (by omega)

set_option maxHeartbeats 4000000 in
set_option maxRecDepth 100000 in
theorem rc_end (l : Launch) (D : va_G) (ra : Nat → Nat) (ca : Nat → ClassId) (hJ : rf_J ra) (N : sp_N) (O : sp_O) (Z : sp_Z) (B : sp_B) (hB : sp_Bd N O) (t how : Nat) (ht : t < 160) (hh : how < 7) : Met l my_M_end (Cond.code my_M_end cd_M_end 3 none :: bg_tbl) ({ frames := 2, cells := 0, slots := 0, locals := 45 }) (va_Pc [.ref (ra 0), .int (nI t), .int (nI how)] (rf_U D ra ca N O Z B)) (va_Qv (fun (_ : Unit) => True) (fun _ uu => rf_U D ra ca (sp_E N O t how) O Z B uu) (rf_A ra)) 0 0 (rf_A ra) := by
  refine Met.ofW (cc := cd_M_end) (maxL := 3) (ret := none) (by decide) rfl ?_
  intro p e s m args below meth c s₁ BB hml hv
  obtain ⟨rfl, hP, hK⟩ := hv
  have hx := BB.exec
  have hb := BB.bytes
  have hr := BB.returns
  have hts : ∀ w ∈ bg_tbl, w.before ([.ref (ra 0), .int (nI t), .int (nI how)] : List Value).toArray s = true := fun w h => atoms_spec (ws := (Cond.code my_M_end cd_M_end 3 none :: bg_tbl)) BB.pre w (List.mem_cons_of_mem _ h)
  have hown : s.vm.findClass rn_M = some m.cls := findClass_of_methodNamed BB.named
  have hlocks := BB.notSynchronized
  obtain ⟨hB_0, hB_1, hB_2, hB_3, hB_4, hB_5, hB_6, hB_7, hB_8, hB_9, hB_10, hB_11, hB_12, hB_17⟩ := id hB
  have hS : va_S (rf_A ra) s.heap s.heap [] := va_S.rf
  have hl := lv_entry ([.ref (ra 0), .int (nI t), .int (nI how)]) (n := 3) (Nat.le_of_ble_eq_true rfl)
  rw [lg_entry_eq]
  generalize (lg_sl ([.ref (ra 0), .int (nI t), .int (nI how)]) ++ List.replicate (3 - (lg_sl ([.ref (ra 0), .int (nI t), .int (nI how)])).length) Slot.unset).toArray = ls at hl ⊢
  have hl : lv_has ls 3 [(0, .ref (ra 0)), (1, .int (nI t)), (2, .int (nI how))] := hl
  refine lv_aload_n hx hb dd_M_end_0 rfl (lv_at hl 0 rfl) ?_
  refine va_get (D := D) (ci := 4) (v := .ref (ra 8)) (C := rn_M) (T := ft_M) (N := 19) hx hb hts tw_fs_M hown hK hP 0 rfl rfl 8 (by decide) (hts _ tw_fl_M_29) (fun _ h9 => h9) rfl dd_M_end_1 ?_
  refine lv_iload_n hx hb dd_M_end_4 rfl (lv_at hl 1 rfl) ?_
  refine lv_iload_n hx hb dd_M_end_5 rfl (lv_at hl 2 rfl) ?_
  refine bq_iast hx hb hK hP (rf_D hJ ca N O Z B) hS 6 5 rfl rfl ht (by decide) dd_M_end_6 (fun H locs hP _ hS => ?_)
  have hP : va_P D vw_cl (rf_W ra ca (sp_u N 8 t how) O Z B) H := hP
  refine lv_aload_n hx hb dd_M_end_7 rfl (lv_at hl 0 rfl) ?_
  refine va_get (D := D) (ci := 4) (v := .ref (ra 9)) (C := rn_M) (T := ft_M) (N := 19) hx hb hts tw_fs_M hown hK hP 0 rfl rfl 9 (by decide) (hts _ tw_fl_M_32) (fun _ h9 => h9) rfl dd_M_end_8 ?_
  refine lv_iload_n hx hb dd_M_end_11 rfl (lv_at hl 1 rfl) ?_
  refine bq_iald hx hb hK hP 7 6 rfl rfl ht (by decide) dd_M_end_12 ?_
  refine bq_olt (tgt := 28) hx hb (fun k hk => Nat.lt_trans (hB_9 _ k hk) (by decide)) dd_M_end_13 rfl (fun h13 => ?_) (fun h13 => ?_)
  · refine lv_aload_n hx hb dd_M_end_28 rfl (lv_at hl 0 rfl) ?_
    refine va_get (D := D) (ci := 4) (v := .ref (ra 10)) (C := rn_M) (T := ft_M) (N := 19) hx hb hts tw_fs_M hown hK hP 0 rfl rfl 10 (by decide) (hts _ tw_fl_M_35) (fun _ h9 => h9) rfl dd_M_end_29 ?_
    refine lv_iload_n hx hb dd_M_end_32 rfl (lv_at hl 1 rfl) ?_
    refine bq_iald hx hb hK hP 8 7 rfl rfl ht (by decide) dd_M_end_33 ?_
    refine bq_olt (tgt := 47) hx hb (fun k hk => Nat.lt_trans (hB_10 _ k hk) (by decide)) dd_M_end_34 rfl (fun h34 => ?_) (fun h34 => ?_)
    · have eN : sp_E N O t how = sp_u N 8 t how := by simp [sp_E, sp_C, h13, h34]
      exact W.vret hx hb hr (fun tt htt hWW => ⟨⟨(), rfl, trivial, by rw [htt, eN]; exact hP, va_K.moved hWW.alike hK⟩, hS.F htt⟩) hS.2.2 dd_M_end_47
    · obtain ⟨g9, hg9⟩ := bd_ne h34
      refine lv_aload_n hx hb dd_M_end_37 rfl (lv_at hl 0 rfl) ?_
      refine lv_aload_n hx hb dd_M_end_38 rfl (lv_at hl 0 rfl) ?_
      refine va_get (D := D) (ci := 4) (v := .ref (ra 10)) (C := rn_M) (T := ft_M) (N := 19) hx hb hts tw_fs_M hown hK hP 0 rfl rfl 10 (by decide) (hts _ tw_fl_M_35) (fun _ h9 => h9) rfl dd_M_end_39 ?_
      refine lv_iload_n hx hb dd_M_end_42 rfl (lv_at hl 1 rfl) ?_
      refine bq_iald hx hb hK hP 8 7 rfl rfl ht (by decide) dd_M_end_43 ?_
      rw [hg9, bd_o_s]
      refine rf_callwv (As := [.int (nI g9)]) (rest := []) ⟨hx, hb, hml, hown, hts⟩ (rc_release l D ra ca hJ (sp_u N 8 t how) O Z B (sp_Bd_8 hB t how (by first | decide | omega)) g9 (hB_10 _ _ hg9)) (bg_cwV 1 hts tw_ml_M_99 tw_im_M_release tw_se_M_release tw_in_M tw_co_M_release rfl rfl th_M_release ⟨Nat.le_of_ble_eq_true rfl, Nat.le_of_ble_eq_true rfl⟩) hK hP hS rfl hl.1 rfl (by decide) dd_M_end_44 ⟨Nat.zero_le _, Nat.zero_le _⟩ (fun H locs hP hS => ?_)
      have eN : sp_E N O t how = sp_S (sp_u N 8 t how) O g9 := by simp [sp_E, sp_C, h13, hg9]
      exact W.vret hx hb hr (fun tt htt hWW => ⟨⟨(), rfl, trivial, by rw [htt, eN]; exact hP, va_K.moved hWW.alike hK⟩, hS.F htt⟩) hS.2.2 dd_M_end_47
  · obtain ⟨c9, hc9⟩ := bd_ne h13
    have hc160 := hB_9 _ _ hc9
    refine lv_aload_n hx hb dd_M_end_16 rfl (lv_at hl 0 rfl) ?_
    refine va_get (D := D) (ci := 4) (v := .ref (ra 8)) (C := rn_M) (T := ft_M) (N := 19) hx hb hts tw_fs_M hown hK hP 0 rfl rfl 8 (by decide) (hts _ tw_fl_M_29) (fun _ h9 => h9) rfl dd_M_end_17 ?_
    refine lv_aload_n hx hb dd_M_end_20 rfl (lv_at hl 0 rfl) ?_
    refine va_get (D := D) (ci := 4) (v := .ref (ra 9)) (C := rn_M) (T := ft_M) (N := 19) hx hb hts tw_fs_M hown hK hP 0 rfl rfl 9 (by decide) (hts _ tw_fl_M_32) (fun _ h9 => h9) rfl dd_M_end_21 ?_
    refine lv_iload_n hx hb dd_M_end_24 rfl (lv_at hl 1 rfl) ?_
    refine bq_iald hx hb hK hP 7 6 rfl rfl ht (by decide) dd_M_end_25 ?_
    rw [hc9, bd_o_s]
    refine lv_iconst (v := nI 3) hx hb dd_M_end_26 (by decide) ?_
    refine bq_iast hx hb hK hP (rf_D hJ ca (sp_u N 8 t how) O Z B) hS 6 5 rfl rfl (by omega) (by decide) dd_M_end_27 (fun H locs hP _ hS => ?_)
    have hP : va_P D vw_cl (rf_W ra ca (sp_u (sp_u N 8 t how) 8 c9 3) O Z B) H := hP
    refine lv_aload_n hx hb dd_M_end_28 rfl (lv_at hl 0 rfl) ?_
    refine va_get (D := D) (ci := 4) (v := .ref (ra 10)) (C := rn_M) (T := ft_M) (N := 19) hx hb hts tw_fs_M hown hK hP 0 rfl rfl 10 (by decide) (hts _ tw_fl_M_35) (fun _ h9 => h9) rfl dd_M_end_29 ?_
    refine lv_iload_n hx hb dd_M_end_32 rfl (lv_at hl 1 rfl) ?_
    refine bq_iald hx hb hK hP 8 7 rfl rfl ht (by decide) dd_M_end_33 ?_
    refine bq_olt (tgt := 47) hx hb (fun k hk => Nat.lt_trans (hB_10 _ k hk) (by decide)) dd_M_end_34 rfl (fun h34 => ?_) (fun h34 => ?_)
    · have eN : sp_E N O t how = sp_u (sp_u N 8 t how) 8 c9 3 := by simp [sp_E, sp_C, hc9, h34]
      exact W.vret hx hb hr (fun tt htt hWW => ⟨⟨(), rfl, trivial, by rw [htt, eN]; exact hP, va_K.moved hWW.alike hK⟩, hS.F htt⟩) hS.2.2 dd_M_end_47
    · obtain ⟨g9, hg9⟩ := bd_ne h34
      refine lv_aload_n hx hb dd_M_end_37 rfl (lv_at hl 0 rfl) ?_
      refine lv_aload_n hx hb dd_M_end_38 rfl (lv_at hl 0 rfl) ?_
      refine va_get (D := D) (ci := 4) (v := .ref (ra 10)) (C := rn_M) (T := ft_M) (N := 19) hx hb hts tw_fs_M hown hK hP 0 rfl rfl 10 (by decide) (hts _ tw_fl_M_35) (fun _ h9 => h9) rfl dd_M_end_39 ?_
      refine lv_iload_n hx hb dd_M_end_42 rfl (lv_at hl 1 rfl) ?_
      refine bq_iald hx hb hK hP 8 7 rfl rfl ht (by decide) dd_M_end_43 ?_
      rw [hg9, bd_o_s]
      refine rf_callwv (As := [.int (nI g9)]) (rest := []) ⟨hx, hb, hml, hown, hts⟩ (rc_release l D ra ca hJ (sp_u (sp_u N 8 t how) 8 c9 3) O Z B (sp_Bd_8 (sp_Bd_8 hB t how (by first | decide | omega)) c9 3 (by first | decide | omega)) g9 (hB_10 _ _ hg9)) (bg_cwV 1 hts tw_ml_M_99 tw_im_M_release tw_se_M_release tw_in_M tw_co_M_release rfl rfl th_M_release ⟨Nat.le_of_ble_eq_true rfl, Nat.le_of_ble_eq_true rfl⟩) hK hP hS rfl hl.1 rfl (by decide) dd_M_end_44 ⟨Nat.zero_le _, Nat.zero_le _⟩ (fun H locs hP hS => ?_)
      have eN : sp_E N O t how = sp_S (sp_u (sp_u N 8 t how) 8 c9 3) O g9 := by simp [sp_E, sp_C, hc9, hg9]
      exact W.vret hx hb hr (fun tt htt hWW => ⟨⟨(), rfl, trivial, by rw [htt, eN]; exact hP, va_K.moved hWW.alike hK⟩, hS.F htt⟩) hS.2.2 dd_M_end_47

