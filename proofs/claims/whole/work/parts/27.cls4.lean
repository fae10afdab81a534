/-! Part 27: the class: append, dropFirst, line, start, withdraw, releaseIfEmpty, conclude. By wip/gen/gen_cls4.py. -/
set_option maxHeartbeats 4000000 in
set_option maxRecDepth 100000 in
theorem cc_Q_append (l : Launch) (D : va_G) (ks : List Nat) (ad : Nat → Nat) (ca : Nat → ClassId) (hJ : cw_J ks ad) (M : sp_N) (X : sp_B) (F : sp_O) (G : sp_Z) (N : sp_N) (O : sp_O) (B : sp_B) (hC : cl_S M X F N O B) (hks : cl_k ks N) (j t : Nat) (hj : j < N 1 0) (ht : t < N 6 0) : Met l my_Q_append (Cond.code my_Q_append cd_Q_append 2 none :: bg_tbl) ({ frames := 0, cells := 0, slots := 0, locals := 0 }) (va_Pc [.ref (ad (8 + j)), .ref (ad (20 + t))] (cw_U D ks ad ca M X F G)) (va_Qv (fun (_ : Unit) => True) (fun _ uu => cw_U D ks ad ca (sp_u M (8 + j) 6 (M (8 + j) 6 + 1)) X (cs_aF F j t) G uu) (cw_A ks ad)) 0 0 (cw_A ks ad) := by
  refine Met.ofW (cc := cd_Q_append) (maxL := 2) (ret := none) (by decide) rfl ?_
  intro p e s m args below meth c s₁ BB hml hv
  obtain ⟨rfl, hP, hK⟩ := hv
  have hx := BB.exec
  have hb := BB.bytes
  have hr := BB.returns
  have hts : ∀ w ∈ bg_tbl, w.before ([.ref (ad (8 + j)), .ref (ad (20 + t))] : List Value).toArray s = true := fun w h => atoms_spec (ws := (Cond.code my_Q_append cd_Q_append 2 none :: bg_tbl)) BB.pre w (List.mem_cons_of_mem _ h)
  have hown : s.vm.findClass rn_Q = some m.cls := findClass_of_methodNamed BB.named
  have hlocks := BB.notSynchronized
  have h12 := cl_12 hC
  have h160 := cl_160 hC
  have h3q := cl_3 hC
  have hM4 := cl_M4 hC
  have hM5 := cl_M5 hC
  have hS : va_S (cw_A ks ad) s.heap s.heap [] := va_S.rf
  have hl := lv_entry ([.ref (ad (8 + j)), .ref (ad (20 + t))]) (n := 2) (Nat.le_of_ble_eq_true rfl)
  rw [lg_entry_eq]
  generalize (lg_sl ([.ref (ad (8 + j)), .ref (ad (20 + t))]) ++ List.replicate (2 - (lg_sl ([.ref (ad (8 + j)), .ref (ad (20 + t))])).length) Slot.unset).toArray = ls at hl ⊢
  have hl : lv_has ls 2 [(0, .ref (ad (8 + j))), (1, .ref (ad (20 + t)))] := hl
  refine lv_aload_n hx hb dd_Q_append_0 rfl (lv_at hl 0 rfl) ?_
  refine cw_getr (k := 8 + j) (C := rn_Q) (T := ft_Q) (NF := 10) hx hb hts tw_fs_Q hown hK hP (hks.2.1 _ hj) (cw_CQ (Nat.lt_of_lt_of_le hj (cl_12 hC)) ad ca _ _ _ _) rfl 5 (by decide) (hts _ tw_fl_Q_37) rfl rfl dd_Q_append_1 (fun h1 => ?_) (fun k9 h1 => ?_)
  · skip
    refine lv_ifnonnullN hx hb dd_Q_append_4 ?_
    refine lv_aload_n hx hb dd_Q_append_7 rfl (lv_at hl 0 rfl) ?_
    refine lv_aload_n hx hb dd_Q_append_8 rfl (lv_at hl 1 rfl) ?_
    refine cw_put1 (k := 8 + j) (C := rn_Q) (T := ft_Q) (NF := 10) (v := .ref (ad (20 + t))) (ty := fy_Q 4) (M' := M) (X' := X) (F' := (sp_u F (8 + j) 4 (some (20 + t)))) (G' := G) hx hb hts tw_fs_Q fy_Q fo_Q fn_Q hown hK hP (cw_D hJ ca M X F G) hS (hks.2.1 _ hj) (cw_CQ (Nat.lt_of_lt_of_le hj (cl_12 hC)) ad ca _ _ _ _) rfl 4 (by decide) (hts _ tw_fl_Q_27) rfl rfl (fo_Q 4 (by decide)) rfl rfl (Nat.le_of_ble_eq_true rfl) (fun _ _ => rfl) (fun _ _ => rfl) (fun _ hq => sp_u_f _ _ _ hq) (fun _ _ => rfl) (by rw [sp_u_k F (8 + j) 4 (some (20 + t))]; exact (cw_CQ (Nat.lt_of_lt_of_le hj (cl_12 hC)) ad ca _ _ _ _)) dd_Q_append_9 (fun H locs hP hS => ?_)
    refine lv_goto (tgt := 23) hx hb dd_Q_append_12 rfl ?_
    refine lv_aload_n hx hb dd_Q_append_23 rfl (lv_at hl 0 rfl) ?_
    refine lv_aload_n hx hb dd_Q_append_24 rfl (lv_at hl 1 rfl) ?_
    refine cw_put1 (k := 8 + j) (C := rn_Q) (T := ft_Q) (NF := 10) (v := .ref (ad (20 + t))) (ty := fy_Q 5) (M' := M) (X' := X) (F' := (sp_u (sp_u F (8 + j) 4 (some (20 + t))) (8 + j) 5 (some (20 + t)))) (G' := G) hx hb hts tw_fs_Q fy_Q fo_Q fn_Q hown hK hP (cw_D hJ ca M X (sp_u F (8 + j) 4 (some (20 + t))) G) hS (hks.2.1 _ hj) (cw_CQ (Nat.lt_of_lt_of_le hj (cl_12 hC)) ad ca _ _ _ _) rfl 5 (by decide) (hts _ tw_fl_Q_37) rfl rfl (fo_Q 5 (by decide)) rfl rfl (Nat.le_of_ble_eq_true rfl) (fun _ _ => rfl) (fun _ _ => rfl) (fun _ hq => sp_u_f _ _ _ hq) (fun _ _ => rfl) (by rw [sp_u_k (sp_u F (8 + j) 4 (some (20 + t))) (8 + j) 5 (some (20 + t))]; exact (cw_CQ (Nat.lt_of_lt_of_le hj (cl_12 hC)) ad ca _ _ _ _)) dd_Q_append_25 (fun H locs hP hS => ?_)
    refine lv_aload_n hx hb dd_Q_append_28 rfl (lv_at hl 0 rfl) ?_
    refine lv_dup hx hb dd_Q_append_29 rfl ?_
    refine cw_get1 (k := 8 + j) (C := rn_Q) (T := ft_Q) (NF := 10) (v := .int (nI (M (8 + j) 6))) hx hb hts tw_fs_Q hown hK hP (hks.2.1 _ hj) (cw_CQ (Nat.lt_of_lt_of_le hj (cl_12 hC)) ad ca _ _ _ _) rfl 6 (by decide) (hts _ tw_fl_Q_43) rfl rfl dd_Q_append_30 ?_
    refine lv_iconst (v := nI 1) hx hb dd_Q_append_33 (by decide) ?_
    refine lv_iadd hx hb dd_Q_append_34 ?_
    rw [nI_add]
    refine cw_put1 (k := 8 + j) (C := rn_Q) (T := ft_Q) (NF := 10) (v := .int (nI ((M (8 + j) 6) + 1))) (ty := fy_Q 6) (M' := (sp_u M (8 + j) 6 ((M (8 + j) 6) + 1))) (X' := X) (F' := (sp_u (sp_u F (8 + j) 4 (some (20 + t))) (8 + j) 5 (some (20 + t)))) (G' := G) hx hb hts tw_fs_Q fy_Q fo_Q fn_Q hown hK hP (cw_D hJ ca M X (sp_u (sp_u F (8 + j) 4 (some (20 + t))) (8 + j) 5 (some (20 + t))) G) hS (hks.2.1 _ hj) (cw_CQ (Nat.lt_of_lt_of_le hj (cl_12 hC)) ad ca _ _ _ _) rfl 6 (by decide) (hts _ tw_fl_Q_43) rfl rfl (fo_Q 6 (by decide)) rfl rfl (Nat.le_of_ble_eq_true rfl) (fun _ hq => sp_u_f _ _ _ hq) (fun _ _ => rfl) (fun _ _ => rfl) (fun _ _ => rfl) (by rw [sp_u_k M (8 + j) 6 ((M (8 + j) 6) + 1)]; exact (cw_CQ (Nat.lt_of_lt_of_le hj (cl_12 hC)) ad ca _ _ _ _)) dd_Q_append_35 (fun H locs hP hS => ?_)
    have eM : sp_u M (8 + j) 6 (M (8 + j) 6 + 1) = sp_u M (8 + j) 6 ((M (8 + j) 6) + 1) := by rfl
    have eF : cs_aF F j t = sp_u (sp_u F (8 + j) 4 (some (20 + t))) (8 + j) 5 (some (20 + t)) := by rw [cs_aF, h1]
    exact W.vret hx hb hr (fun tt htt hWW => ⟨⟨(), rfl, trivial, by rw [htt, eM, eF]; exact hP, va_K.moved hWW.alike hK⟩, hS.F htt⟩) hS.2.2 dd_Q_append_38
  · obtain ⟨tl, htl, rfl⟩ := cl_ls hC hj h1
    refine lv_ifnonnull (tgt := 15) hx hb dd_Q_append_4 rfl ?_
    refine lv_aload_n hx hb dd_Q_append_15 rfl (lv_at hl 0 rfl) ?_
    refine cw_getk (k := 8 + j) (C := rn_Q) (T := ft_Q) (NF := 10) hx hb hts tw_fs_Q hown hK hP (hks.2.1 _ hj) (cw_CQ (Nat.lt_of_lt_of_le hj (cl_12 hC)) ad ca _ _ _ _) rfl 5 (by decide) (hts _ tw_fl_Q_37) rfl rfl h1 dd_Q_append_16 ?_
    refine lv_aload_n hx hb dd_Q_append_19 rfl (lv_at hl 1 rfl) ?_
    refine cw_put1 (k := 20 + tl) (C := rn_B) (T := ft_B) (NF := 11) (v := .ref (ad (20 + t))) (ty := fy_B 10) (M' := M) (X' := X) (F' := (sp_u F (20 + tl) 10 (some (20 + t)))) (G' := G) hx hb hts tw_fs_B fy_B fo_B fn_B hown hK hP (cw_D hJ ca M X F G) hS (hks.2.2 _ htl) (cw_CB _ ad ca _ _ _ _) rfl 10 (by decide) (hts _ tw_fl_Q_40) rfl rfl (fo_B 10 (by decide)) rfl rfl (Nat.le_of_ble_eq_true rfl) (fun _ _ => rfl) (fun _ _ => rfl) (fun _ hq => sp_u_f _ _ _ hq) (fun _ _ => rfl) (by rw [sp_u_k F (20 + tl) 10 (some (20 + t))]; exact (cw_CB _ ad ca _ _ _ _)) dd_Q_append_20 (fun H locs hP hS => ?_)
    refine lv_aload_n hx hb dd_Q_append_23 rfl (lv_at hl 0 rfl) ?_
    refine lv_aload_n hx hb dd_Q_append_24 rfl (lv_at hl 1 rfl) ?_
    refine cw_put1 (k := 8 + j) (C := rn_Q) (T := ft_Q) (NF := 10) (v := .ref (ad (20 + t))) (ty := fy_Q 5) (M' := M) (X' := X) (F' := (sp_u (sp_u F (20 + tl) 10 (some (20 + t))) (8 + j) 5 (some (20 + t)))) (G' := G) hx hb hts tw_fs_Q fy_Q fo_Q fn_Q hown hK hP (cw_D hJ ca M X (sp_u F (20 + tl) 10 (some (20 + t))) G) hS (hks.2.1 _ hj) (cw_CQ (Nat.lt_of_lt_of_le hj (cl_12 hC)) ad ca _ _ _ _) rfl 5 (by decide) (hts _ tw_fl_Q_37) rfl rfl (fo_Q 5 (by decide)) rfl rfl (Nat.le_of_ble_eq_true rfl) (fun _ _ => rfl) (fun _ _ => rfl) (fun _ hq => sp_u_f _ _ _ hq) (fun _ _ => rfl) (by rw [sp_u_k (sp_u F (20 + tl) 10 (some (20 + t))) (8 + j) 5 (some (20 + t))]; exact (cw_CQ (Nat.lt_of_lt_of_le hj (cl_12 hC)) ad ca _ _ _ _)) dd_Q_append_25 (fun H locs hP hS => ?_)
    refine lv_aload_n hx hb dd_Q_append_28 rfl (lv_at hl 0 rfl) ?_
    refine lv_dup hx hb dd_Q_append_29 rfl ?_
    refine cw_get1 (k := 8 + j) (C := rn_Q) (T := ft_Q) (NF := 10) (v := .int (nI (M (8 + j) 6))) hx hb hts tw_fs_Q hown hK hP (hks.2.1 _ hj) (cw_CQ (Nat.lt_of_lt_of_le hj (cl_12 hC)) ad ca _ _ _ _) rfl 6 (by decide) (hts _ tw_fl_Q_43) rfl rfl dd_Q_append_30 ?_
    refine lv_iconst (v := nI 1) hx hb dd_Q_append_33 (by decide) ?_
    refine lv_iadd hx hb dd_Q_append_34 ?_
    rw [nI_add]
    refine cw_put1 (k := 8 + j) (C := rn_Q) (T := ft_Q) (NF := 10) (v := .int (nI ((M (8 + j) 6) + 1))) (ty := fy_Q 6) (M' := (sp_u M (8 + j) 6 ((M (8 + j) 6) + 1))) (X' := X) (F' := (sp_u (sp_u F (20 + tl) 10 (some (20 + t))) (8 + j) 5 (some (20 + t)))) (G' := G) hx hb hts tw_fs_Q fy_Q fo_Q fn_Q hown hK hP (cw_D hJ ca M X (sp_u (sp_u F (20 + tl) 10 (some (20 + t))) (8 + j) 5 (some (20 + t))) G) hS (hks.2.1 _ hj) (cw_CQ (Nat.lt_of_lt_of_le hj (cl_12 hC)) ad ca _ _ _ _) rfl 6 (by decide) (hts _ tw_fl_Q_43) rfl rfl (fo_Q 6 (by decide)) rfl rfl (Nat.le_of_ble_eq_true rfl) (fun _ hq => sp_u_f _ _ _ hq) (fun _ _ => rfl) (fun _ _ => rfl) (fun _ _ => rfl) (by rw [sp_u_k M (8 + j) 6 ((M (8 + j) 6) + 1)]; exact (cw_CQ (Nat.lt_of_lt_of_le hj (cl_12 hC)) ad ca _ _ _ _)) dd_Q_append_35 (fun H locs hP hS => ?_)
    have eM : sp_u M (8 + j) 6 (M (8 + j) 6 + 1) = sp_u M (8 + j) 6 ((M (8 + j) 6) + 1) := by rfl
    have eF : cs_aF F j t = sp_u (sp_u F (20 + tl) 10 (some (20 + t))) (8 + j) 5 (some (20 + t)) := by rw [cs_aF, h1]
    exact W.vret hx hb hr (fun tt htt hWW => ⟨⟨(), rfl, trivial, by rw [htt, eM, eF]; exact hP, va_K.moved hWW.alike hK⟩, hS.F htt⟩) hS.2.2 dd_Q_append_38

set_option maxHeartbeats 4000000 in
set_option maxRecDepth 100000 in
theorem cc_Q_dropFirst (l : Launch) (D : va_G) (ks : List Nat) (ad : Nat → Nat) (ca : Nat → ClassId) (hJ : cw_J ks ad) (M : sp_N) (X : sp_B) (F : sp_O) (G : sp_Z) (N : sp_N) (O : sp_O) (B : sp_B) (hC : cl_S M X F N O B) (hks : cl_k ks N) (j : Nat) (hj : j < N 1 0) (h6 : F (8 + j) 4 ≠ none → 1 ≤ M (8 + j) 6) : Met l my_Q_dropFirst (Cond.code my_Q_dropFirst cd_Q_dropFirst 1 none :: bg_tbl) ({ frames := 0, cells := 0, slots := 0, locals := 0 }) (va_Pc [.ref (ad (8 + j))] (cw_U D ks ad ca M X F G)) (va_Qv (fun (_ : Unit) => True) (fun _ uu => cw_U D ks ad ca (cs_xM M F j) X (cs_xF F j) G uu) (cw_A ks ad)) 0 0 (cw_A ks ad) := by
  refine Met.ofW (cc := cd_Q_dropFirst) (maxL := 1) (ret := none) (by decide) rfl ?_
  intro p e s m args below meth c s₁ BB hml hv
  obtain ⟨rfl, hP, hK⟩ := hv
  have hx := BB.exec
  have hb := BB.bytes
  have hr := BB.returns
  have hts : ∀ w ∈ bg_tbl, w.before ([.ref (ad (8 + j))] : List Value).toArray s = true := fun w h => atoms_spec (ws := (Cond.code my_Q_dropFirst cd_Q_dropFirst 1 none :: bg_tbl)) BB.pre w (List.mem_cons_of_mem _ h)
  have hown : s.vm.findClass rn_Q = some m.cls := findClass_of_methodNamed BB.named
  have hlocks := BB.notSynchronized
  have h12 := cl_12 hC
  have h160 := cl_160 hC
  have h3q := cl_3 hC
  have hM4 := cl_M4 hC
  have hM5 := cl_M5 hC
  have hS : va_S (cw_A ks ad) s.heap s.heap [] := va_S.rf
  have hl := lv_entry ([.ref (ad (8 + j))]) (n := 1) (Nat.le_of_ble_eq_true rfl)
  rw [lg_entry_eq]
  generalize (lg_sl ([.ref (ad (8 + j))]) ++ List.replicate (1 - (lg_sl ([.ref (ad (8 + j))])).length) Slot.unset).toArray = ls at hl ⊢
  have hl : lv_has ls 1 [(0, .ref (ad (8 + j)))] := hl
  refine lv_aload_n hx hb dd_Q_dropFirst_0 rfl (lv_at hl 0 rfl) ?_
  refine cw_getr (k := 8 + j) (C := rn_Q) (T := ft_Q) (NF := 10) hx hb hts tw_fs_Q hown hK hP (hks.2.1 _ hj) (cw_CQ (Nat.lt_of_lt_of_le hj (cl_12 hC)) ad ca _ _ _ _) rfl 4 (by decide) (hts _ tw_fl_Q_27) rfl rfl dd_Q_dropFirst_1 (fun h1 => ?_) (fun k9 h1 => ?_)
  · skip
    refine lv_ifnonnullN hx hb dd_Q_dropFirst_4 ?_
    have eM : cs_xM M F j = M := by rw [cs_xM, h1]
    have eF : cs_xF F j = F := by rw [cs_xF, h1]
    exact W.vret hx hb hr (fun tt htt hWW => ⟨⟨(), rfl, trivial, by rw [htt, eM, eF]; exact hP, va_K.moved hWW.alike hK⟩, hS.F htt⟩) hS.2.2 dd_Q_dropFirst_7
  · obtain ⟨tf, htf, rfl⟩ := cl_fs hC hj h1
    have h6 := h6 (by rw [h1]; simp)
    refine lv_ifnonnull (tgt := 8) hx hb dd_Q_dropFirst_4 rfl ?_
    refine lv_aload_n hx hb dd_Q_dropFirst_8 rfl (lv_at hl 0 rfl) ?_
    refine lv_aload_n hx hb dd_Q_dropFirst_9 rfl (lv_at hl 0 rfl) ?_
    refine cw_getk (k := 8 + j) (C := rn_Q) (T := ft_Q) (NF := 10) hx hb hts tw_fs_Q hown hK hP (hks.2.1 _ hj) (cw_CQ (Nat.lt_of_lt_of_le hj (cl_12 hC)) ad ca _ _ _ _) rfl 4 (by decide) (hts _ tw_fl_Q_27) rfl rfl h1 dd_Q_dropFirst_10 ?_
    refine cw_getr (k := 20 + tf) (C := rn_B) (T := ft_B) (NF := 11) hx hb hts tw_fs_B hown hK hP (hks.2.2 _ htf) (cw_CB _ ad ca _ _ _ _) rfl 10 (by decide) (hts _ tw_fl_Q_40) rfl rfl dd_Q_dropFirst_13 (fun h13 => ?_) (fun k9 h13 => ?_)
    · skip
      refine cw_put1 (k := 8 + j) (C := rn_Q) (T := ft_Q) (NF := 10) (v := .null) (ty := fy_Q 4) (M' := M) (X' := X) (F' := (sp_u F (8 + j) 4 none)) (G' := G) hx hb hts tw_fs_Q fy_Q fo_Q fn_Q hown hK hP (cw_D hJ ca M X F G) hS (hks.2.1 _ hj) (cw_CQ (Nat.lt_of_lt_of_le hj (cl_12 hC)) ad ca _ _ _ _) rfl 4 (by decide) (hts _ tw_fl_Q_27) rfl rfl (fo_Q 4 (by decide)) rfl rfl (Nat.le_of_ble_eq_true rfl) (fun _ _ => rfl) (fun _ _ => rfl) (fun _ hq => sp_u_f _ _ _ hq) (fun _ _ => rfl) (by rw [sp_u_k F (8 + j) 4 none]; exact (cw_CQ (Nat.lt_of_lt_of_le hj (cl_12 hC)) ad ca _ _ _ _)) dd_Q_dropFirst_16 (fun H locs hP hS => ?_)
      refine lv_aload_n hx hb dd_Q_dropFirst_19 rfl (lv_at hl 0 rfl) ?_
      refine cw_getn (k := 8 + j) (C := rn_Q) (T := ft_Q) (NF := 10) hx hb hts tw_fs_Q hown hK hP (hks.2.1 _ hj) (cw_CQ (Nat.lt_of_lt_of_le hj (cl_12 hC)) ad ca _ _ _ _) rfl 4 (by decide) (hts _ tw_fl_Q_27) rfl rfl (by rw [sp_u_app, if_pos ⟨rfl, rfl⟩]) dd_Q_dropFirst_20 ?_
      refine lv_ifnonnullN hx hb dd_Q_dropFirst_23 ?_
      refine lv_aload_n hx hb dd_Q_dropFirst_26 rfl (lv_at hl 0 rfl) ?_
      refine lv_null hx hb dd_Q_dropFirst_27 ?_
      refine cw_put1 (k := 8 + j) (C := rn_Q) (T := ft_Q) (NF := 10) (v := .null) (ty := fy_Q 5) (M' := M) (X' := X) (F' := (sp_u (sp_u F (8 + j) 4 none) (8 + j) 5 none)) (G' := G) hx hb hts tw_fs_Q fy_Q fo_Q fn_Q hown hK hP (cw_D hJ ca M X (sp_u F (8 + j) 4 none) G) hS (hks.2.1 _ hj) (cw_CQ (Nat.lt_of_lt_of_le hj (cl_12 hC)) ad ca _ _ _ _) rfl 5 (by decide) (hts _ tw_fl_Q_37) rfl rfl (fo_Q 5 (by decide)) rfl rfl (Nat.le_of_ble_eq_true rfl) (fun _ _ => rfl) (fun _ _ => rfl) (fun _ hq => sp_u_f _ _ _ hq) (fun _ _ => rfl) (by rw [sp_u_k (sp_u F (8 + j) 4 none) (8 + j) 5 none]; exact (cw_CQ (Nat.lt_of_lt_of_le hj (cl_12 hC)) ad ca _ _ _ _)) dd_Q_dropFirst_28 (fun H locs hP hS => ?_)
      refine lv_aload_n hx hb dd_Q_dropFirst_31 rfl (lv_at hl 0 rfl) ?_
      refine lv_dup hx hb dd_Q_dropFirst_32 rfl ?_
      refine cw_get1 (k := 8 + j) (C := rn_Q) (T := ft_Q) (NF := 10) (v := .int (nI (M (8 + j) 6))) hx hb hts tw_fs_Q hown hK hP (hks.2.1 _ hj) (cw_CQ (Nat.lt_of_lt_of_le hj (cl_12 hC)) ad ca _ _ _ _) rfl 6 (by decide) (hts _ tw_fl_Q_43) rfl rfl dd_Q_dropFirst_33 ?_
      refine lv_iconst (v := nI 1) hx hb dd_Q_dropFirst_36 (by decide) ?_
      refine lv_isub hx hb dd_Q_dropFirst_37 ?_
      rw [pk_sub (by omega)]
      refine cw_put1 (k := 8 + j) (C := rn_Q) (T := ft_Q) (NF := 10) (v := .int (nI ((M (8 + j) 6) - 1))) (ty := fy_Q 6) (M' := (sp_u M (8 + j) 6 ((M (8 + j) 6) - 1))) (X' := X) (F' := (sp_u (sp_u F (8 + j) 4 none) (8 + j) 5 none)) (G' := G) hx hb hts tw_fs_Q fy_Q fo_Q fn_Q hown hK hP (cw_D hJ ca M X (sp_u (sp_u F (8 + j) 4 none) (8 + j) 5 none) G) hS (hks.2.1 _ hj) (cw_CQ (Nat.lt_of_lt_of_le hj (cl_12 hC)) ad ca _ _ _ _) rfl 6 (by decide) (hts _ tw_fl_Q_43) rfl rfl (fo_Q 6 (by decide)) rfl rfl (Nat.le_of_ble_eq_true rfl) (fun _ hq => sp_u_f _ _ _ hq) (fun _ _ => rfl) (fun _ _ => rfl) (fun _ _ => rfl) (by rw [sp_u_k M (8 + j) 6 ((M (8 + j) 6) - 1)]; exact (cw_CQ (Nat.lt_of_lt_of_le hj (cl_12 hC)) ad ca _ _ _ _)) dd_Q_dropFirst_38 (fun H locs hP hS => ?_)
      have eM : cs_xM M F j = sp_u M (8 + j) 6 ((M (8 + j) 6) - 1) := by rw [cs_xM, h1]
      have eF : cs_xF F j = sp_u (sp_u F (8 + j) 4 none) (8 + j) 5 none := by rw [cs_xF, h1]; simp only []; rw [h13]
      exact W.vret hx hb hr (fun tt htt hWW => ⟨⟨(), rfl, trivial, by rw [htt, eM, eF]; exact hP, va_K.moved hWW.alike hK⟩, hS.F htt⟩) hS.2.2 dd_Q_dropFirst_41
    · obtain ⟨tu, htu, rfl⟩ := cl_ys hC htf h13
      refine cw_put1 (k := 8 + j) (C := rn_Q) (T := ft_Q) (NF := 10) (v := .ref (ad (20 + tu))) (ty := fy_Q 4) (M' := M) (X' := X) (F' := (sp_u F (8 + j) 4 (some (20 + tu)))) (G' := G) hx hb hts tw_fs_Q fy_Q fo_Q fn_Q hown hK hP (cw_D hJ ca M X F G) hS (hks.2.1 _ hj) (cw_CQ (Nat.lt_of_lt_of_le hj (cl_12 hC)) ad ca _ _ _ _) rfl 4 (by decide) (hts _ tw_fl_Q_27) rfl rfl (fo_Q 4 (by decide)) rfl rfl (Nat.le_of_ble_eq_true rfl) (fun _ _ => rfl) (fun _ _ => rfl) (fun _ hq => sp_u_f _ _ _ hq) (fun _ _ => rfl) (by rw [sp_u_k F (8 + j) 4 (some (20 + tu))]; exact (cw_CQ (Nat.lt_of_lt_of_le hj (cl_12 hC)) ad ca _ _ _ _)) dd_Q_dropFirst_16 (fun H locs hP hS => ?_)
      refine lv_aload_n hx hb dd_Q_dropFirst_19 rfl (lv_at hl 0 rfl) ?_
      refine cw_getk (k := 8 + j) (C := rn_Q) (T := ft_Q) (NF := 10) hx hb hts tw_fs_Q hown hK hP (hks.2.1 _ hj) (cw_CQ (Nat.lt_of_lt_of_le hj (cl_12 hC)) ad ca _ _ _ _) rfl 4 (by decide) (hts _ tw_fl_Q_27) rfl rfl (by rw [sp_u_app, if_pos ⟨rfl, rfl⟩]) dd_Q_dropFirst_20 ?_
      refine lv_ifnonnull (tgt := 31) hx hb dd_Q_dropFirst_23 rfl ?_
      refine lv_aload_n hx hb dd_Q_dropFirst_31 rfl (lv_at hl 0 rfl) ?_
      refine lv_dup hx hb dd_Q_dropFirst_32 rfl ?_
      refine cw_get1 (k := 8 + j) (C := rn_Q) (T := ft_Q) (NF := 10) (v := .int (nI (M (8 + j) 6))) hx hb hts tw_fs_Q hown hK hP (hks.2.1 _ hj) (cw_CQ (Nat.lt_of_lt_of_le hj (cl_12 hC)) ad ca _ _ _ _) rfl 6 (by decide) (hts _ tw_fl_Q_43) rfl rfl dd_Q_dropFirst_33 ?_
      refine lv_iconst (v := nI 1) hx hb dd_Q_dropFirst_36 (by decide) ?_
      refine lv_isub hx hb dd_Q_dropFirst_37 ?_
      rw [pk_sub (by omega)]
      refine cw_put1 (k := 8 + j) (C := rn_Q) (T := ft_Q) (NF := 10) (v := .int (nI ((M (8 + j) 6) - 1))) (ty := fy_Q 6) (M' := (sp_u M (8 + j) 6 ((M (8 + j) 6) - 1))) (X' := X) (F' := (sp_u F (8 + j) 4 (some (20 + tu)))) (G' := G) hx hb hts tw_fs_Q fy_Q fo_Q fn_Q hown hK hP (cw_D hJ ca M X (sp_u F (8 + j) 4 (some (20 + tu))) G) hS (hks.2.1 _ hj) (cw_CQ (Nat.lt_of_lt_of_le hj (cl_12 hC)) ad ca _ _ _ _) rfl 6 (by decide) (hts _ tw_fl_Q_43) rfl rfl (fo_Q 6 (by decide)) rfl rfl (Nat.le_of_ble_eq_true rfl) (fun _ hq => sp_u_f _ _ _ hq) (fun _ _ => rfl) (fun _ _ => rfl) (fun _ _ => rfl) (by rw [sp_u_k M (8 + j) 6 ((M (8 + j) 6) - 1)]; exact (cw_CQ (Nat.lt_of_lt_of_le hj (cl_12 hC)) ad ca _ _ _ _)) dd_Q_dropFirst_38 (fun H locs hP hS => ?_)
      have eM : cs_xM M F j = sp_u M (8 + j) 6 ((M (8 + j) 6) - 1) := by rw [cs_xM, h1]
      have eF : cs_xF F j = sp_u F (8 + j) 4 (some (20 + tu)) := by rw [cs_xF, h1]; simp only []; rw [h13]
      exact W.vret hx hb hr (fun tt htt hWW => ⟨⟨(), rfl, trivial, by rw [htt, eM, eF]; exact hP, va_K.moved hWW.alike hK⟩, hS.F htt⟩) hS.2.2 dd_Q_dropFirst_41

set_option maxHeartbeats 4000000 in
set_option maxRecDepth 100000 in
theorem cc_D_line (l : Launch) (D : va_G) (ks : List Nat) (ad : Nat → Nat) (ca : Nat → ClassId) (hJ : cw_J ks ad) (M : sp_N) (X : sp_B) (F : sp_O) (G : sp_Z) (N : sp_N) (O : sp_O) (B : sp_B) (hC : cl_S M X F N O B) (hks : cl_k ks N) (t : Nat) (ht : t < N 6 0) : Met l my_D_line (Cond.code my_D_line cd_D_line 2 none :: bg_tbl) ({ frames := 1, cells := 0, slots := 0, locals := 21 }) (va_Pc [.ref (ad 0), .ref (ad (20 + t))] (cw_U D ks ad ca M X F G)) (va_Qv (fun (_ : Unit) => True) (fun _ uu => cw_U D ks ad ca (cs_lM M N t) X (cs_aF F (N 7 t) t) G uu) (cw_A ks ad)) 0 0 (cw_A ks ad) := by
  refine Met.ofW (cc := cd_D_line) (maxL := 2) (ret := none) (by decide) rfl ?_
  intro p e s m args below meth c s₁ BB hml hv
  obtain ⟨rfl, hP, hK⟩ := hv
  have hx := BB.exec
  have hb := BB.bytes
  have hr := BB.returns
  have hts : ∀ w ∈ bg_tbl, w.before ([.ref (ad 0), .ref (ad (20 + t))] : List Value).toArray s = true := fun w h => atoms_spec (ws := (Cond.code my_D_line cd_D_line 2 none :: bg_tbl)) BB.pre w (List.mem_cons_of_mem _ h)
  have hown : s.vm.findClass rn_D = some m.cls := findClass_of_methodNamed BB.named
  have hlocks := BB.notSynchronized
  have h12 := cl_12 hC
  have h160 := cl_160 hC
  have h3q := cl_3 hC
  have hM4 := cl_M4 hC
  have hM5 := cl_M5 hC
  have hS : va_S (cw_A ks ad) s.heap s.heap [] := va_S.rf
  have hl := lv_entry ([.ref (ad 0), .ref (ad (20 + t))]) (n := 2) (Nat.le_of_ble_eq_true rfl)
  rw [lg_entry_eq]
  generalize (lg_sl ([.ref (ad 0), .ref (ad (20 + t))]) ++ List.replicate (2 - (lg_sl ([.ref (ad 0), .ref (ad (20 + t))])).length) Slot.unset).toArray = ls at hl ⊢
  have hl : lv_has ls 2 [(0, .ref (ad 0)), (1, .ref (ad (20 + t)))] := hl
  refine lv_aload_n hx hb dd_D_line_0 rfl (lv_at hl 1 rfl) ?_
  refine lv_iconst (v := nI 2) hx hb dd_D_line_1 (by decide) ?_
  refine cw_put1 (k := 20 + t) (C := rn_B) (T := ft_B) (NF := 11) (v := .int (nI 2)) (ty := fy_B 3) (M' := (sp_u M (20 + t) 3 2)) (X' := X) (F' := F) (G' := G) hx hb hts tw_fs_B fy_B fo_B fn_B hown hK hP (cw_D hJ ca M X F G) hS (hks.2.2 _ ht) (cw_CB _ ad ca _ _ _ _) rfl 3 (by decide) (hts _ tw_fl_D_91) rfl rfl (fo_B 3 (by decide)) rfl rfl (Nat.le_of_ble_eq_true rfl) (fun _ hq => sp_u_f _ _ _ hq) (fun _ _ => rfl) (fun _ _ => rfl) (fun _ _ => rfl) (by rw [sp_u_k M (20 + t) 3 2]; exact (cw_CB _ ad ca _ _ _ _)) dd_D_line_2 (fun H locs hP hS => ?_)
  refine lv_aload_n hx hb dd_D_line_5 rfl (lv_at hl 1 rfl) ?_
  refine lv_aload_n hx hb dd_D_line_6 rfl (lv_at hl 0 rfl) ?_
  refine cw_get1 (k := 0) (C := rn_D) (T := ft_D) (NF := 9) (v := .int (nI ((sp_u M (20 + t) 3 2) 0 7))) hx hb hts tw_fs_D hown hK hP (hks.1 0 (by decide)) (cw_C0 ad ca _ _ _ _) rfl 7 (by decide) (hts _ tw_fl_D_187) rfl rfl dd_D_line_7 ?_
  rw [show (sp_u M (20 + t) 3 2) 0 7 = M 0 7 from by rw [sp_u_app, if_neg (by omega)]]
  refine cw_put1 (k := 20 + t) (C := rn_B) (T := ft_B) (NF := 11) (v := .int (nI (M 0 7))) (ty := fy_B 9) (M' := (sp_u (sp_u M (20 + t) 3 2) (20 + t) 9 (M 0 7))) (X' := X) (F' := F) (G' := G) hx hb hts tw_fs_B fy_B fo_B fn_B hown hK hP (cw_D hJ ca (sp_u M (20 + t) 3 2) X F G) hS (hks.2.2 _ ht) (cw_CB _ ad ca _ _ _ _) rfl 9 (by decide) (hts _ tw_fl_D_190) rfl rfl (fo_B 9 (by decide)) rfl rfl (Nat.le_of_ble_eq_true rfl) (fun _ hq => sp_u_f _ _ _ hq) (fun _ _ => rfl) (fun _ _ => rfl) (fun _ _ => rfl) (by rw [sp_u_k (sp_u M (20 + t) 3 2) (20 + t) 9 (M 0 7)]; exact (cw_CB _ ad ca _ _ _ _)) dd_D_line_10 (fun H locs hP hS => ?_)
  refine lv_aload_n hx hb dd_D_line_13 rfl (lv_at hl 0 rfl) ?_
  refine lv_dup hx hb dd_D_line_14 rfl ?_
  refine cw_get1 (k := 0) (C := rn_D) (T := ft_D) (NF := 9) (v := .int (nI ((sp_u (sp_u M (20 + t) 3 2) (20 + t) 9 (M 0 7)) 0 7))) hx hb hts tw_fs_D hown hK hP (hks.1 0 (by decide)) (cw_C0 ad ca _ _ _ _) rfl 7 (by decide) (hts _ tw_fl_D_187) rfl rfl dd_D_line_15 ?_
  rw [show (sp_u (sp_u M (20 + t) 3 2) (20 + t) 9 (M 0 7)) 0 7 = M 0 7 from by rw [sp_u_app, if_neg (by omega), sp_u_app, if_neg (by omega)]]
  refine lv_iconst (v := nI 1) hx hb dd_D_line_18 (by decide) ?_
  refine lv_iadd hx hb dd_D_line_19 ?_
  rw [nI_add]
  refine cw_put1 (k := 0) (C := rn_D) (T := ft_D) (NF := 9) (v := .int (nI ((M 0 7) + 1))) (ty := fy_D 7) (M' := (sp_u (sp_u (sp_u M (20 + t) 3 2) (20 + t) 9 (M 0 7)) 0 7 ((M 0 7) + 1))) (X' := X) (F' := F) (G' := G) hx hb hts tw_fs_D fy_D fo_D fn_D hown hK hP (cw_D hJ ca (sp_u (sp_u M (20 + t) 3 2) (20 + t) 9 (M 0 7)) X F G) hS (hks.1 0 (by decide)) (cw_C0 ad ca _ _ _ _) rfl 7 (by decide) (hts _ tw_fl_D_187) rfl rfl (fo_D 7 (by decide)) rfl rfl (Nat.le_of_ble_eq_true rfl) (fun _ hq => sp_u_f _ _ _ hq) (fun _ _ => rfl) (fun _ _ => rfl) (fun _ _ => rfl) (by rw [sp_u_k (sp_u (sp_u M (20 + t) 3 2) (20 + t) 9 (M 0 7)) 0 7 ((M 0 7) + 1)]; exact (cw_C0 ad ca _ _ _ _)) dd_D_line_20 (fun H locs hP hS => ?_)
  refine lv_aload_n hx hb dd_D_line_23 rfl (lv_at hl 1 rfl) ?_
  refine cw_getk (k := 20 + t) (C := rn_B) (T := ft_B) (NF := 11) hx hb hts tw_fs_B hown hK hP (hks.2.2 _ ht) (cw_CB _ ad ca _ _ _ _) rfl 1 (by decide) (hts _ tw_fl_D_141) rfl rfl (cl_h hC ht) dd_D_line_24 ?_
  refine lv_aload_n hx hb dd_D_line_27 rfl (lv_at hl 1 rfl) ?_
  have eL : sp_u (sp_u (sp_u (sp_u M (20 + t) 3 2) (20 + t) 9 (M 0 7)) 0 7 ((M 0 7) + 1)) (8 + N 7 t) 6 ((sp_u (sp_u (sp_u M (20 + t) 3 2) (20 + t) 9 (M 0 7)) 0 7 ((M 0 7) + 1)) (8 + N 7 t) 6 + 1) = cs_lM M N t := by rw [cs_lM, show (sp_u (sp_u (sp_u M (20 + t) 3 2) (20 + t) 9 (M 0 7)) 0 7 ((M 0 7) + 1)) (8 + N 7 t) 6 = M (8 + N 7 t) 6 from by rw [sp_u_app, if_neg (by omega), sp_u_app, if_neg (by omega), sp_u_app, if_neg (by omega)]]
  have hM9 := cc_Q_append l D ks ad ca hJ (sp_u (sp_u (sp_u M (20 + t) 3 2) (20 + t) 9 (M 0 7)) 0 7 ((M 0 7) + 1)) X F G N O B (cl_S_M (cl_S_M (cl_S_M hC (by decide) (Or.inl (by omega))) (by decide) (Or.inl (by omega))) (by decide) (Or.inr ⟨by decide, by decide⟩)) hks (N 7 t) t (cl_hl hC ht) ht
  rw [eL] at hM9
  refine cw_callwv (k := 8 + N 7 t) (C := rn_Q) (T := ft_Q) (NF := 10) (As := [.ref (ad (20 + t))]) (rest := []) ⟨hx, hb, hml, hown, hts⟩ (hM9) (bg_cwV 1 hts tw_ml_D_193 tw_im_Q_append tw_se_Q_append tw_in_Q tw_co_Q_append rfl rfl th_Q_append ⟨Nat.le_of_ble_eq_true rfl, Nat.le_of_ble_eq_true rfl⟩) hK hP hS (hks.2.1 _ (cl_hl hC ht)) (cw_CQ (Nat.lt_of_lt_of_le (cl_hl hC ht) (cl_12 hC)) ad ca _ _ _ _) rfl rfl hl.1 rfl (Nat.le_of_ble_eq_true rfl) dd_D_line_28 ⟨Nat.zero_le _, Nat.zero_le _⟩ (fun H locs hP hS => ?_)
  exact W.vret hx hb hr (fun tt htt hWW => ⟨⟨(), rfl, trivial, by rw [htt]; exact hP, va_K.moved hWW.alike hK⟩, hS.F htt⟩) hS.2.2 dd_D_line_31

theorem bd_max {a b : Nat} (ha : a < 2 ^ 31) (hb : b < 2 ^ 31) : (if nI a < nI b then nI b else nI a) = nI (if a ≤ b then b else a) := by
  by_cases h : a < b
  · rw [if_pos (nI_lt h hb), if_pos (by omega)]
  · rw [if_neg (nI_nlt (by omega) ha)]
    by_cases h2 : a ≤ b
    · rw [if_pos h2, show a = b by omega]
    · rw [if_neg h2]
set_option maxHeartbeats 4000000 in
set_option maxRecDepth 100000 in
theorem cc_D_start (l : Launch) (D : va_G) (ks : List Nat) (ad : Nat → Nat) (ca : Nat → ClassId) (hJ : cw_J ks ad) (M : sp_N) (X : sp_B) (F : sp_O) (G : sp_Z) (N : sp_N) (O : sp_O) (B : sp_B) (hC : cl_S M X F N O B) (hks : cl_k ks N) (t : Nat) (ht : t < N 6 0) (hb7 : ∀ j, j < N 1 0 → M (8 + j) 7 + 1 < 2 ^ 31 ∧ M (8 + j) 8 < 2 ^ 31) : Met l my_D_start (Cond.code my_D_start cd_D_start 3 none :: bg_tbl) ({ frames := 1, cells := 0, slots := 0, locals := 16 }) (va_Pc [.ref (ad 0), .ref (ad (20 + t))] (cw_U D ks ad ca M X F G)) (va_Qv (fun (_ : Unit) => True) (fun _ uu => cw_U D ks ad ca (cs_sM M F N t) (cs_sX X N t) F G uu) (cw_A ks ad)) 0 0 (cw_A ks ad) := by
  refine Met.ofW (cc := cd_D_start) (maxL := 3) (ret := none) (by decide) rfl ?_
  intro p e s m args below meth c s₁ BB hml hv
  obtain ⟨rfl, hP, hK⟩ := hv
  have hx := BB.exec
  have hb := BB.bytes
  have hr := BB.returns
  have hts : ∀ w ∈ bg_tbl, w.before ([.ref (ad 0), .ref (ad (20 + t))] : List Value).toArray s = true := fun w h => atoms_spec (ws := (Cond.code my_D_start cd_D_start 3 none :: bg_tbl)) BB.pre w (List.mem_cons_of_mem _ h)
  have hown : s.vm.findClass rn_D = some m.cls := findClass_of_methodNamed BB.named
  have hlocks := BB.notSynchronized
  have h12 := cl_12 hC
  have h160 := cl_160 hC
  have h3q := cl_3 hC
  have hM4 := cl_M4 hC
  have hM5 := cl_M5 hC
  have hS : va_S (cw_A ks ad) s.heap s.heap [] := va_S.rf
  have hl := lv_entry ([.ref (ad 0), .ref (ad (20 + t))]) (n := 3) (Nat.le_of_ble_eq_true rfl)
  rw [lg_entry_eq]
  generalize (lg_sl ([.ref (ad 0), .ref (ad (20 + t))]) ++ List.replicate (3 - (lg_sl ([.ref (ad 0), .ref (ad (20 + t))])).length) Slot.unset).toArray = ls at hl ⊢
  have hl : lv_has ls 3 [(0, .ref (ad 0)), (1, .ref (ad (20 + t)))] := hl
  have lp : ∀ y, y < N 1 0 → ∀ (K : sp_N) (Y : sp_B) (ls : Array Slot) (H : Heap) (locs : List Loc), (cs_up N y K = cs_sM M F N t) → (Y = cs_sX X N t) → (∀ j, sp_l N y j = true → j < N 1 0 → K (8 + j) 7 + 1 < 2 ^ 31 ∧ K (8 + j) 8 < 2 ^ 31) →  va_P D vw_cl (cw_W ks ad ca K Y F G) H → va_S (cw_A ks ad) s.heap H locs → lv_has ls 3 [(2, .ref (ad (8 + y)))] → W p l e (headSpec (Cond.code my_D_start cd_D_start 3 none :: bg_tbl) ({ frames := 1, cells := 0, slots := 0, locals := 16 })).room s m ([.ref (ad 0), .ref (ad (20 + t))] : List Value).toArray below meth c H locs 0 0 (MQ below (va_Qv (fun (_ : Unit) => True) (fun _ uu => cw_U D ks ad ca (cs_sM M F N t) (cs_sX X N t) F G uu) (cw_A ks ad)) ([.ref (ad 0), .ref (ad (20 + t))] : List Value).toArray s 0 0 (cw_A ks ad)) (F0 m 42 ls []) := by
    refine sp_ind (cl_tr hC) (fun y hj3 K Y ls H locs he heX hbK hP hS hl => ?_) (fun y hj3 hy ih K Y ls H locs he heX hbK hP hS hl => ?_)
    · have hy : y < N 1 0 := by omega
      refine lv_aload_n hx hb dd_D_start_42 rfl (lv_at hl 0 rfl) ?_
      refine lv_ifnull hx hb dd_D_start_43 ?_
      refine lv_aload_n hx hb dd_D_start_46 rfl (lv_at hl 0 rfl) ?_
      refine lv_dup hx hb dd_D_start_47 rfl ?_
      refine cw_get1 (k := 8 + y) (C := rn_Q) (T := ft_Q) (NF := 10) (v := .int (nI (K (8 + y) 7))) hx hb hts tw_fs_Q hown hK hP (hks.2.1 _ hy) (cw_CQ (Nat.lt_of_lt_of_le hy (cl_12 hC)) ad ca _ _ _ _) rfl 7 (by decide) (hts _ tw_fl_D_59) rfl rfl dd_D_start_48 ?_
      refine lv_iconst (v := nI 1) hx hb dd_D_start_51 (by decide) ?_
      refine lv_iadd hx hb dd_D_start_52 ?_
      rw [nI_add]
      refine cw_put1 (k := 8 + y) (C := rn_Q) (T := ft_Q) (NF := 10) (v := .int (nI ((K (8 + y) 7) + 1))) (ty := fy_Q 7) (M' := (sp_u K (8 + y) 7 ((K (8 + y) 7) + 1))) (X' := Y) (F' := F) (G' := G) hx hb hts tw_fs_Q fy_Q fo_Q fn_Q hown hK hP (cw_D hJ ca K Y F G) hS (hks.2.1 _ hy) (cw_CQ (Nat.lt_of_lt_of_le hy (cl_12 hC)) ad ca _ _ _ _) rfl 7 (by decide) (hts _ tw_fl_D_59) rfl rfl (fo_Q 7 (by decide)) rfl rfl (Nat.le_of_ble_eq_true rfl) (fun _ hq => sp_u_f _ _ _ hq) (fun _ _ => rfl) (fun _ _ => rfl) (fun _ _ => rfl) (by rw [sp_u_k K (8 + y) 7 ((K (8 + y) 7) + 1)]; exact (cw_CQ (Nat.lt_of_lt_of_le hy (cl_12 hC)) ad ca _ _ _ _)) dd_D_start_53 (fun H locs hP hS => ?_)
      refine lv_aload_n hx hb dd_D_start_56 rfl (lv_at hl 0 rfl) ?_
      refine lv_aload_n hx hb dd_D_start_57 rfl (lv_at hl 0 rfl) ?_
      refine cw_get1 (k := 8 + y) (C := rn_Q) (T := ft_Q) (NF := 10) (v := .int (nI ((sp_u K (8 + y) 7 ((K (8 + y) 7) + 1)) (8 + y) 8))) hx hb hts tw_fs_Q hown hK hP (hks.2.1 _ hy) (cw_CQ (Nat.lt_of_lt_of_le hy (cl_12 hC)) ad ca _ _ _ _) rfl 8 (by decide) (hts _ tw_fl_D_171) rfl rfl dd_D_start_58 ?_
      rw [show (sp_u K (8 + y) 7 ((K (8 + y) 7) + 1)) (8 + y) 8 = K (8 + y) 8 from by rw [sp_u_app, if_neg (by omega)]]
      refine lv_aload_n hx hb dd_D_start_61 rfl (lv_at hl 0 rfl) ?_
      refine cw_get1 (k := 8 + y) (C := rn_Q) (T := ft_Q) (NF := 10) (v := .int (nI ((sp_u K (8 + y) 7 ((K (8 + y) 7) + 1)) (8 + y) 7))) hx hb hts tw_fs_Q hown hK hP (hks.2.1 _ hy) (cw_CQ (Nat.lt_of_lt_of_le hy (cl_12 hC)) ad ca _ _ _ _) rfl 7 (by decide) (hts _ tw_fl_D_59) rfl rfl dd_D_start_62 ?_
      rw [show (sp_u K (8 + y) 7 ((K (8 + y) 7) + 1)) (8 + y) 7 = (K (8 + y) 7) + 1 from by rw [sp_u_app, if_pos ⟨rfl, rfl⟩]]
      refine va_mmax hx hb (by rw [hml]; exact hl.1.symm) hown (hts _ tw_ml_D_15) (hts _ tw_st_J_max) (hts _ tw_in_J) (hts _ tw_co_J_max) (Nat.le_of_ble_eq_true rfl) (Nat.le_of_ble_eq_true rfl) (Nat.zero_le _) (Nat.zero_le _) dd_D_start_65 ?_
      rw [bd_max (hbK y (sp_l_self N y) hy).2 (hbK y (sp_l_self N y) hy).1]
      refine cw_put1 (k := 8 + y) (C := rn_Q) (T := ft_Q) (NF := 10) (v := .int (nI (if K (8 + y) 8 ≤ (K (8 + y) 7) + 1 then (K (8 + y) 7) + 1 else K (8 + y) 8))) (ty := fy_Q 8) (M' := (sp_u (sp_u K (8 + y) 7 ((K (8 + y) 7) + 1)) (8 + y) 8 (if K (8 + y) 8 ≤ (K (8 + y) 7) + 1 then (K (8 + y) 7) + 1 else K (8 + y) 8))) (X' := Y) (F' := F) (G' := G) hx hb hts tw_fs_Q fy_Q fo_Q fn_Q hown hK hP (cw_D hJ ca (sp_u K (8 + y) 7 ((K (8 + y) 7) + 1)) Y F G) hS (hks.2.1 _ hy) (cw_CQ (Nat.lt_of_lt_of_le hy (cl_12 hC)) ad ca _ _ _ _) rfl 8 (by decide) (hts _ tw_fl_D_171) rfl rfl (fo_Q 8 (by decide)) rfl rfl (Nat.le_of_ble_eq_true rfl) (fun _ hq => sp_u_f _ _ _ hq) (fun _ _ => rfl) (fun _ _ => rfl) (fun _ _ => rfl) (by rw [sp_u_k (sp_u K (8 + y) 7 ((K (8 + y) 7) + 1)) (8 + y) 8 (if K (8 + y) 8 ≤ (K (8 + y) 7) + 1 then (K (8 + y) 7) + 1 else K (8 + y) 8)]; exact (cw_CQ (Nat.lt_of_lt_of_le hy (cl_12 hC)) ad ca _ _ _ _)) dd_D_start_68 (fun H locs hP hS => ?_)
      refine lv_aload_n hx hb dd_D_start_71 rfl (lv_at hl 0 rfl) ?_
      refine cw_getn (k := 8 + y) (C := rn_Q) (T := ft_Q) (NF := 10) hx hb hts tw_fs_Q hown hK hP (hks.2.1 _ hy) (cw_CQ (Nat.lt_of_lt_of_le hy (cl_12 hC)) ad ca _ _ _ _) rfl 2 (by decide) (hts _ tw_fl_D_62) rfl rfl (cl_t0 hC hy hj3) dd_D_start_72 ?_
      refine lv_astore_nN hx hb dd_D_start_75 rfl hl (by decide) rfl (fun ls hl => ?_)
      have hl : lv_has ls 3 [(2, .null)] := hl
      refine lv_goto (tgt := 42) hx hb dd_D_start_76 rfl ?_
      refine lv_aload_nN hx hb dd_D_start_42 rfl (lv_at hl 0 rfl) ?_
      refine lv_ifnullN (tgt := 79) hx hb dd_D_start_43 rfl ?_
      have eM : cs_sM M F N t = sp_u (sp_u K (8 + y) 7 ((K (8 + y) 7) + 1)) (8 + y) 8 (if K (8 + y) 8 ≤ (K (8 + y) 7) + 1 then (K (8 + y) 7) + 1 else K (8 + y) 8) := by rw [← he, cs_up_eq (cl_tr hC) K hy, if_pos hj3]; rfl
      have eX : cs_sX X N t = Y := by exact heX.symm
      exact W.vret hx hb hr (fun tt htt hWW => ⟨⟨(), rfl, trivial, by rw [htt, eM, eX]; exact hP, va_K.moved hWW.alike hK⟩, hS.F htt⟩) hS.2.2 dd_D_start_79
    · have hyl := cl_tl hC hy hj3
      refine lv_aload_n hx hb dd_D_start_42 rfl (lv_at hl 0 rfl) ?_
      refine lv_ifnull hx hb dd_D_start_43 ?_
      refine lv_aload_n hx hb dd_D_start_46 rfl (lv_at hl 0 rfl) ?_
      refine lv_dup hx hb dd_D_start_47 rfl ?_
      refine cw_get1 (k := 8 + y) (C := rn_Q) (T := ft_Q) (NF := 10) (v := .int (nI (K (8 + y) 7))) hx hb hts tw_fs_Q hown hK hP (hks.2.1 _ hy) (cw_CQ (Nat.lt_of_lt_of_le hy (cl_12 hC)) ad ca _ _ _ _) rfl 7 (by decide) (hts _ tw_fl_D_59) rfl rfl dd_D_start_48 ?_
      refine lv_iconst (v := nI 1) hx hb dd_D_start_51 (by decide) ?_
      refine lv_iadd hx hb dd_D_start_52 ?_
      rw [nI_add]
      refine cw_put1 (k := 8 + y) (C := rn_Q) (T := ft_Q) (NF := 10) (v := .int (nI ((K (8 + y) 7) + 1))) (ty := fy_Q 7) (M' := (sp_u K (8 + y) 7 ((K (8 + y) 7) + 1))) (X' := Y) (F' := F) (G' := G) hx hb hts tw_fs_Q fy_Q fo_Q fn_Q hown hK hP (cw_D hJ ca K Y F G) hS (hks.2.1 _ hy) (cw_CQ (Nat.lt_of_lt_of_le hy (cl_12 hC)) ad ca _ _ _ _) rfl 7 (by decide) (hts _ tw_fl_D_59) rfl rfl (fo_Q 7 (by decide)) rfl rfl (Nat.le_of_ble_eq_true rfl) (fun _ hq => sp_u_f _ _ _ hq) (fun _ _ => rfl) (fun _ _ => rfl) (fun _ _ => rfl) (by rw [sp_u_k K (8 + y) 7 ((K (8 + y) 7) + 1)]; exact (cw_CQ (Nat.lt_of_lt_of_le hy (cl_12 hC)) ad ca _ _ _ _)) dd_D_start_53 (fun H locs hP hS => ?_)
      refine lv_aload_n hx hb dd_D_start_56 rfl (lv_at hl 0 rfl) ?_
      refine lv_aload_n hx hb dd_D_start_57 rfl (lv_at hl 0 rfl) ?_
      refine cw_get1 (k := 8 + y) (C := rn_Q) (T := ft_Q) (NF := 10) (v := .int (nI ((sp_u K (8 + y) 7 ((K (8 + y) 7) + 1)) (8 + y) 8))) hx hb hts tw_fs_Q hown hK hP (hks.2.1 _ hy) (cw_CQ (Nat.lt_of_lt_of_le hy (cl_12 hC)) ad ca _ _ _ _) rfl 8 (by decide) (hts _ tw_fl_D_171) rfl rfl dd_D_start_58 ?_
      rw [show (sp_u K (8 + y) 7 ((K (8 + y) 7) + 1)) (8 + y) 8 = K (8 + y) 8 from by rw [sp_u_app, if_neg (by omega)]]
      refine lv_aload_n hx hb dd_D_start_61 rfl (lv_at hl 0 rfl) ?_
      refine cw_get1 (k := 8 + y) (C := rn_Q) (T := ft_Q) (NF := 10) (v := .int (nI ((sp_u K (8 + y) 7 ((K (8 + y) 7) + 1)) (8 + y) 7))) hx hb hts tw_fs_Q hown hK hP (hks.2.1 _ hy) (cw_CQ (Nat.lt_of_lt_of_le hy (cl_12 hC)) ad ca _ _ _ _) rfl 7 (by decide) (hts _ tw_fl_D_59) rfl rfl dd_D_start_62 ?_
      rw [show (sp_u K (8 + y) 7 ((K (8 + y) 7) + 1)) (8 + y) 7 = (K (8 + y) 7) + 1 from by rw [sp_u_app, if_pos ⟨rfl, rfl⟩]]
      refine va_mmax hx hb (by rw [hml]; exact hl.1.symm) hown (hts _ tw_ml_D_15) (hts _ tw_st_J_max) (hts _ tw_in_J) (hts _ tw_co_J_max) (Nat.le_of_ble_eq_true rfl) (Nat.le_of_ble_eq_true rfl) (Nat.zero_le _) (Nat.zero_le _) dd_D_start_65 ?_
      rw [bd_max (hbK y (sp_l_self N y) hy).2 (hbK y (sp_l_self N y) hy).1]
      refine cw_put1 (k := 8 + y) (C := rn_Q) (T := ft_Q) (NF := 10) (v := .int (nI (if K (8 + y) 8 ≤ (K (8 + y) 7) + 1 then (K (8 + y) 7) + 1 else K (8 + y) 8))) (ty := fy_Q 8) (M' := (sp_u (sp_u K (8 + y) 7 ((K (8 + y) 7) + 1)) (8 + y) 8 (if K (8 + y) 8 ≤ (K (8 + y) 7) + 1 then (K (8 + y) 7) + 1 else K (8 + y) 8))) (X' := Y) (F' := F) (G' := G) hx hb hts tw_fs_Q fy_Q fo_Q fn_Q hown hK hP (cw_D hJ ca (sp_u K (8 + y) 7 ((K (8 + y) 7) + 1)) Y F G) hS (hks.2.1 _ hy) (cw_CQ (Nat.lt_of_lt_of_le hy (cl_12 hC)) ad ca _ _ _ _) rfl 8 (by decide) (hts _ tw_fl_D_171) rfl rfl (fo_Q 8 (by decide)) rfl rfl (Nat.le_of_ble_eq_true rfl) (fun _ hq => sp_u_f _ _ _ hq) (fun _ _ => rfl) (fun _ _ => rfl) (fun _ _ => rfl) (by rw [sp_u_k (sp_u K (8 + y) 7 ((K (8 + y) 7) + 1)) (8 + y) 8 (if K (8 + y) 8 ≤ (K (8 + y) 7) + 1 then (K (8 + y) 7) + 1 else K (8 + y) 8)]; exact (cw_CQ (Nat.lt_of_lt_of_le hy (cl_12 hC)) ad ca _ _ _ _)) dd_D_start_68 (fun H locs hP hS => ?_)
      refine lv_aload_n hx hb dd_D_start_71 rfl (lv_at hl 0 rfl) ?_
      refine cw_getk (k := 8 + y) (C := rn_Q) (T := ft_Q) (NF := 10) hx hb hts tw_fs_Q hown hK hP (hks.2.1 _ hy) (cw_CQ (Nat.lt_of_lt_of_le hy (cl_12 hC)) ad ca _ _ _ _) rfl 2 (by decide) (hts _ tw_fl_D_62) rfl rfl (cl_t1 hC hy hj3) dd_D_start_72 ?_
      refine lv_astore_n hx hb dd_D_start_75 rfl hl (by decide) rfl (fun ls hl => ?_)
      have hl : lv_has ls 3 [(2, .ref (ad (8 + N 2 y)))] := hl
      refine lv_goto (tgt := 42) hx hb dd_D_start_76 rfl ?_
      exact ih (cs_u1 K y) Y ls H locs (by rw [← he, cs_up_eq (cl_tr hC) K hy, if_neg (by omega)]) heX (fun j hj hjl => by
        have hne : j ≠ y := fun q => by rw [q, sp_l_no (cl_tr hC) hj3 hy] at hj; cases hj
        have h9 := hbK j (by rw [sp_l_eq (cl_tr hC) hy, if_neg (by omega), if_neg (by omega)]; exact hj) hjl
        rw [cs_u1, sp_u_app, if_neg (by omega), sp_u_app, if_neg (by omega), sp_u_app, if_neg (by omega), sp_u_app, if_neg (by omega)]
        exact h9) hP hS (lv_sub hl [0] rfl)
  refine lv_aload_n hx hb dd_D_start_0 rfl (lv_at hl 1 rfl) ?_
  refine lv_iconst (v := nI 3) hx hb dd_D_start_1 (by decide) ?_
  refine cw_put1 (k := 20 + t) (C := rn_B) (T := ft_B) (NF := 11) (v := .int (nI 3)) (ty := fy_B 3) (M' := (sp_u M (20 + t) 3 3)) (X' := X) (F' := F) (G' := G) hx hb hts tw_fs_B fy_B fo_B fn_B hown hK hP (cw_D hJ ca M X F G) hS (hks.2.2 _ ht) (cw_CB _ ad ca _ _ _ _) rfl 3 (by decide) (hts _ tw_fl_D_91) rfl rfl (fo_B 3 (by decide)) rfl rfl (Nat.le_of_ble_eq_true rfl) (fun _ hq => sp_u_f _ _ _ hq) (fun _ _ => rfl) (fun _ _ => rfl) (fun _ _ => rfl) (by rw [sp_u_k M (20 + t) 3 3]; exact (cw_CB _ ad ca _ _ _ _)) dd_D_start_2 (fun H locs hP hS => ?_)
  refine lv_aload_n hx hb dd_D_start_5 rfl (lv_at hl 1 rfl) ?_
  refine cw_getr (k := 20 + t) (C := rn_B) (T := ft_B) (NF := 11) hx hb hts tw_fs_B hown hK hP (hks.2.2 _ ht) (cw_CB _ ad ca _ _ _ _) rfl 5 (by decide) (hts _ tw_fl_D_110) rfl rfl dd_D_start_6 (fun h6 => ?_) (fun k9 h6 => ?_)
  · have ho9 := cl_cn hC ht h6
    refine lv_ifnonnullN hx hb dd_D_start_9 ?_
    refine lv_aload_n hx hb dd_D_start_12 rfl (lv_at hl 0 rfl) ?_
    refine lv_dup hx hb dd_D_start_13 rfl ?_
    refine cw_get1 (k := 0) (C := rn_D) (T := ft_D) (NF := 9) (v := .int (nI ((sp_u M (20 + t) 3 3) 0 6))) hx hb hts tw_fs_D hown hK hP (hks.1 0 (by decide)) (cw_C0 ad ca _ _ _ _) rfl 6 (by decide) (hts _ tw_fl_D_210) rfl rfl dd_D_start_14 ?_
    rw [show (sp_u M (20 + t) 3 3) 0 6 = M 0 6 from by rw [sp_u_app, if_neg (by omega)]]
    refine lv_iconst (v := nI 1) hx hb dd_D_start_17 (by decide) ?_
    refine lv_iadd hx hb dd_D_start_18 ?_
    rw [nI_add]
    refine cw_put1 (k := 0) (C := rn_D) (T := ft_D) (NF := 9) (v := .int (nI ((M 0 6) + 1))) (ty := fy_D 6) (M' := (sp_u (sp_u M (20 + t) 3 3) 0 6 ((M 0 6) + 1))) (X' := X) (F' := F) (G' := G) hx hb hts tw_fs_D fy_D fo_D fn_D hown hK hP (cw_D hJ ca (sp_u M (20 + t) 3 3) X F G) hS (hks.1 0 (by decide)) (cw_C0 ad ca _ _ _ _) rfl 6 (by decide) (hts _ tw_fl_D_210) rfl rfl (fo_D 6 (by decide)) rfl rfl (Nat.le_of_ble_eq_true rfl) (fun _ hq => sp_u_f _ _ _ hq) (fun _ _ => rfl) (fun _ _ => rfl) (fun _ _ => rfl) (by rw [sp_u_k (sp_u M (20 + t) 3 3) 0 6 ((M 0 6) + 1)]; exact (cw_C0 ad ca _ _ _ _)) dd_D_start_19 (fun H locs hP hS => ?_)
    refine lv_aload_n hx hb dd_D_start_22 rfl (lv_at hl 1 rfl) ?_
    refine cw_get1 (k := 20 + t) (C := rn_B) (T := ft_B) (NF := 11) (v := .int (bd_b (X (20 + t) 2))) hx hb hts tw_fs_B hown hK hP (hks.2.2 _ ht) (cw_CB _ ad ca _ _ _ _) rfl 2 (by decide) (hts _ tw_fl_D_201) rfl rfl dd_D_start_23 ?_
    refine bq_zeq (tgt := 37) hx hb dd_D_start_26 rfl (fun h26 => ?_) (fun h26 => ?_)
    · refine lv_aload_n hx hb dd_D_start_37 rfl (lv_at hl 1 rfl) ?_
      refine cw_getk (k := 20 + t) (C := rn_B) (T := ft_B) (NF := 11) hx hb hts tw_fs_B hown hK hP (hks.2.2 _ ht) (cw_CB _ ad ca _ _ _ _) rfl 1 (by decide) (hts _ tw_fl_D_141) rfl rfl (cl_h hC ht) dd_D_start_38 ?_
      refine lv_astore_n hx hb dd_D_start_41 rfl hl (by decide) rfl (fun ls hl => ?_)
      have hl : lv_has ls 3 [(2, .ref (ad (8 + N 7 t))), (0, .ref (ad 0)), (1, .ref (ad (20 + t)))] := hl
      exact lp (N 7 t) (cl_hl hC ht) _ _ ls _ _ (by rw [cs_sM, h6]) (by rw [cs_sX, if_neg (by rw [h26]; decide)]) (fun j _ hj => by rw [sp_u_app, if_neg (by omega), sp_u_app, if_neg (by omega), sp_u_app, if_neg (by omega), sp_u_app, if_neg (by omega)]; exact hb7 j hj) hP hS (lv_sub hl [0] rfl)
    · refine lv_aload_n hx hb dd_D_start_29 rfl (lv_at hl 1 rfl) ?_
      refine cw_getk (k := 20 + t) (C := rn_B) (T := ft_B) (NF := 11) hx hb hts tw_fs_B hown hK hP (hks.2.2 _ ht) (cw_CB _ ad ca _ _ _ _) rfl 1 (by decide) (hts _ tw_fl_D_141) rfl rfl (cl_h hC ht) dd_D_start_30 ?_
      refine lv_iconst (v := bd_b true) hx hb dd_D_start_33 (by decide) ?_
      refine cw_put1 (k := 8 + N 7 t) (C := rn_Q) (T := ft_Q) (NF := 10) (v := .int (bd_b true)) (ty := fy_Q 9) (M' := (sp_u (sp_u M (20 + t) 3 3) 0 6 ((M 0 6) + 1))) (X' := (sp_u X (8 + N 7 t) 9 true)) (F' := F) (G' := G) hx hb hts tw_fs_Q fy_Q fo_Q fn_Q hown hK hP (cw_D hJ ca (sp_u (sp_u M (20 + t) 3 3) 0 6 ((M 0 6) + 1)) X F G) hS (hks.2.1 _ (cl_hl hC ht)) (cw_CQ (Nat.lt_of_lt_of_le (cl_hl hC ht) (cl_12 hC)) ad ca _ _ _ _) rfl 9 (by decide) (hts _ tw_fl_D_213) rfl rfl (fo_Q 9 (by decide)) (bd_b_nar _) (bd_b_fit _) (Nat.le_of_ble_eq_true rfl) (fun _ _ => rfl) (fun _ hq => sp_u_f _ _ _ hq) (fun _ _ => rfl) (fun _ _ => rfl) (by rw [sp_u_k X (8 + N 7 t) 9 true]; exact (cw_CQ (Nat.lt_of_lt_of_le (cl_hl hC ht) (cl_12 hC)) ad ca _ _ _ _)) dd_D_start_34 (fun H locs hP hS => ?_)
      refine lv_aload_n hx hb dd_D_start_37 rfl (lv_at hl 1 rfl) ?_
      refine cw_getk (k := 20 + t) (C := rn_B) (T := ft_B) (NF := 11) hx hb hts tw_fs_B hown hK hP (hks.2.2 _ ht) (cw_CB _ ad ca _ _ _ _) rfl 1 (by decide) (hts _ tw_fl_D_141) rfl rfl (cl_h hC ht) dd_D_start_38 ?_
      refine lv_astore_n hx hb dd_D_start_41 rfl hl (by decide) rfl (fun ls hl => ?_)
      have hl : lv_has ls 3 [(2, .ref (ad (8 + N 7 t))), (0, .ref (ad 0)), (1, .ref (ad (20 + t)))] := hl
      exact lp (N 7 t) (cl_hl hC ht) _ _ ls _ _ (by rw [cs_sM, h6]) (by rw [cs_sX, if_pos h26]) (fun j _ hj => by rw [sp_u_app, if_neg (by omega), sp_u_app, if_neg (by omega), sp_u_app, if_neg (by omega), sp_u_app, if_neg (by omega)]; exact hb7 j hj) hP hS (lv_sub hl [0] rfl)
  · obtain ⟨cc9, hcc9, hclt, rfl⟩ := cl_cs hC ht h6
    refine lv_ifnonnull (tgt := 22) hx hb dd_D_start_9 rfl ?_
    refine lv_aload_n hx hb dd_D_start_22 rfl (lv_at hl 1 rfl) ?_
    refine cw_get1 (k := 20 + t) (C := rn_B) (T := ft_B) (NF := 11) (v := .int (bd_b (X (20 + t) 2))) hx hb hts tw_fs_B hown hK hP (hks.2.2 _ ht) (cw_CB _ ad ca _ _ _ _) rfl 2 (by decide) (hts _ tw_fl_D_201) rfl rfl dd_D_start_23 ?_
    refine bq_zeq (tgt := 37) hx hb dd_D_start_26 rfl (fun h26 => ?_) (fun h26 => ?_)
    · refine lv_aload_n hx hb dd_D_start_37 rfl (lv_at hl 1 rfl) ?_
      refine cw_getk (k := 20 + t) (C := rn_B) (T := ft_B) (NF := 11) hx hb hts tw_fs_B hown hK hP (hks.2.2 _ ht) (cw_CB _ ad ca _ _ _ _) rfl 1 (by decide) (hts _ tw_fl_D_141) rfl rfl (cl_h hC ht) dd_D_start_38 ?_
      refine lv_astore_n hx hb dd_D_start_41 rfl hl (by decide) rfl (fun ls hl => ?_)
      have hl : lv_has ls 3 [(2, .ref (ad (8 + N 7 t))), (0, .ref (ad 0)), (1, .ref (ad (20 + t)))] := hl
      exact lp (N 7 t) (cl_hl hC ht) _ _ ls _ _ (by rw [cs_sM, h6]) (by rw [cs_sX, if_neg (by rw [h26]; decide)]) (fun j _ hj => by rw [sp_u_app, if_neg (by omega), sp_u_app, if_neg (by omega)]; exact hb7 j hj) hP hS (lv_sub hl [0] rfl)
    · refine lv_aload_n hx hb dd_D_start_29 rfl (lv_at hl 1 rfl) ?_
      refine cw_getk (k := 20 + t) (C := rn_B) (T := ft_B) (NF := 11) hx hb hts tw_fs_B hown hK hP (hks.2.2 _ ht) (cw_CB _ ad ca _ _ _ _) rfl 1 (by decide) (hts _ tw_fl_D_141) rfl rfl (cl_h hC ht) dd_D_start_30 ?_
      refine lv_iconst (v := bd_b true) hx hb dd_D_start_33 (by decide) ?_
      refine cw_put1 (k := 8 + N 7 t) (C := rn_Q) (T := ft_Q) (NF := 10) (v := .int (bd_b true)) (ty := fy_Q 9) (M' := (sp_u M (20 + t) 3 3)) (X' := (sp_u X (8 + N 7 t) 9 true)) (F' := F) (G' := G) hx hb hts tw_fs_Q fy_Q fo_Q fn_Q hown hK hP (cw_D hJ ca (sp_u M (20 + t) 3 3) X F G) hS (hks.2.1 _ (cl_hl hC ht)) (cw_CQ (Nat.lt_of_lt_of_le (cl_hl hC ht) (cl_12 hC)) ad ca _ _ _ _) rfl 9 (by decide) (hts _ tw_fl_D_213) rfl rfl (fo_Q 9 (by decide)) (bd_b_nar _) (bd_b_fit _) (Nat.le_of_ble_eq_true rfl) (fun _ _ => rfl) (fun _ hq => sp_u_f _ _ _ hq) (fun _ _ => rfl) (fun _ _ => rfl) (by rw [sp_u_k X (8 + N 7 t) 9 true]; exact (cw_CQ (Nat.lt_of_lt_of_le (cl_hl hC ht) (cl_12 hC)) ad ca _ _ _ _)) dd_D_start_34 (fun H locs hP hS => ?_)
      refine lv_aload_n hx hb dd_D_start_37 rfl (lv_at hl 1 rfl) ?_
      refine cw_getk (k := 20 + t) (C := rn_B) (T := ft_B) (NF := 11) hx hb hts tw_fs_B hown hK hP (hks.2.2 _ ht) (cw_CB _ ad ca _ _ _ _) rfl 1 (by decide) (hts _ tw_fl_D_141) rfl rfl (cl_h hC ht) dd_D_start_38 ?_
      refine lv_astore_n hx hb dd_D_start_41 rfl hl (by decide) rfl (fun ls hl => ?_)
      have hl : lv_has ls 3 [(2, .ref (ad (8 + N 7 t))), (0, .ref (ad 0)), (1, .ref (ad (20 + t)))] := hl
      exact lp (N 7 t) (cl_hl hC ht) _ _ ls _ _ (by rw [cs_sM, h6]) (by rw [cs_sX, if_pos h26]) (fun j _ hj => by rw [sp_u_app, if_neg (by omega), sp_u_app, if_neg (by omega)]; exact hb7 j hj) hP hS (lv_sub hl [0] rfl)

set_option maxHeartbeats 4000000 in
set_option maxRecDepth 100000 in
theorem cc_D_withdraw (l : Launch) (D : va_G) (ks : List Nat) (ad : Nat → Nat) (ca : Nat → ClassId) (hJ : cw_J ks ad) (M : sp_N) (X : sp_B) (F : sp_O) (G : sp_Z) (N : sp_N) (O : sp_O) (B : sp_B) (hC : cl_S M X F N O B) (hks : cl_k ks N) (t : Nat) (ht : t < N 6 0) (h06 : O 9 t = none → 1 ≤ M 0 6) (hb7 : ∀ j, j < N 1 0 → sp_l N (N 7 t) j = true → 1 ≤ M (8 + j) 7) : Met l my_D_withdraw (Cond.code my_D_withdraw cd_D_withdraw 3 none :: bg_tbl) ({ frames := 0, cells := 0, slots := 0, locals := 0 }) (va_Pc [.ref (ad 0), .ref (ad (20 + t))] (cw_U D ks ad ca M X F G)) (va_Qv (fun (_ : Unit) => True) (fun _ uu => cw_U D ks ad ca (cs_wM M F N t) (cs_wX X N t) F G uu) (cw_A ks ad)) 0 0 (cw_A ks ad) := by
  refine Met.ofW (cc := cd_D_withdraw) (maxL := 3) (ret := none) (by decide) rfl ?_
  intro p e s m args below meth c s₁ BB hml hv
  obtain ⟨rfl, hP, hK⟩ := hv
  have hx := BB.exec
  have hb := BB.bytes
  have hr := BB.returns
  have hts : ∀ w ∈ bg_tbl, w.before ([.ref (ad 0), .ref (ad (20 + t))] : List Value).toArray s = true := fun w h => atoms_spec (ws := (Cond.code my_D_withdraw cd_D_withdraw 3 none :: bg_tbl)) BB.pre w (List.mem_cons_of_mem _ h)
  have hown : s.vm.findClass rn_D = some m.cls := findClass_of_methodNamed BB.named
  have hlocks := BB.notSynchronized
  have h12 := cl_12 hC
  have h160 := cl_160 hC
  have h3q := cl_3 hC
  have hM4 := cl_M4 hC
  have hM5 := cl_M5 hC
  have hS : va_S (cw_A ks ad) s.heap s.heap [] := va_S.rf
  have hl := lv_entry ([.ref (ad 0), .ref (ad (20 + t))]) (n := 3) (Nat.le_of_ble_eq_true rfl)
  rw [lg_entry_eq]
  generalize (lg_sl ([.ref (ad 0), .ref (ad (20 + t))]) ++ List.replicate (3 - (lg_sl ([.ref (ad 0), .ref (ad (20 + t))])).length) Slot.unset).toArray = ls at hl ⊢
  have hl : lv_has ls 3 [(0, .ref (ad 0)), (1, .ref (ad (20 + t)))] := hl
  have lp : ∀ y, y < N 1 0 → ∀ (K : sp_N) (Y : sp_B) (ls : Array Slot) (H : Heap) (locs : List Loc), (cs_dn N y K = cs_wM M F N t) → (Y = cs_wX X N t) → (∀ j, sp_l N y j = true → j < N 1 0 → 1 ≤ K (8 + j) 7) →  va_P D vw_cl (cw_W ks ad ca K Y F G) H → va_S (cw_A ks ad) s.heap H locs → lv_has ls 3 [(2, .ref (ad (8 + y)))] → W p l e (headSpec (Cond.code my_D_withdraw cd_D_withdraw 3 none :: bg_tbl) ({ frames := 0, cells := 0, slots := 0, locals := 0 })).room s m ([.ref (ad 0), .ref (ad (20 + t))] : List Value).toArray below meth c H locs 0 0 (MQ below (va_Qv (fun (_ : Unit) => True) (fun _ uu => cw_U D ks ad ca (cs_wM M F N t) (cs_wX X N t) F G uu) (cw_A ks ad)) ([.ref (ad 0), .ref (ad (20 + t))] : List Value).toArray s 0 0 (cw_A ks ad)) (F0 m 37 ls []) := by
    refine sp_ind (cl_tr hC) (fun y hj3 K Y ls H locs he heX hbK hP hS hl => ?_) (fun y hj3 hy ih K Y ls H locs he heX hbK hP hS hl => ?_)
    · have hy : y < N 1 0 := by omega
      have hK7 := hbK y (sp_l_self N y) hy
      refine lv_aload_n hx hb dd_D_withdraw_37 rfl (lv_at hl 0 rfl) ?_
      refine lv_ifnull hx hb dd_D_withdraw_38 ?_
      refine lv_aload_n hx hb dd_D_withdraw_41 rfl (lv_at hl 0 rfl) ?_
      refine lv_dup hx hb dd_D_withdraw_42 rfl ?_
      refine cw_get1 (k := 8 + y) (C := rn_Q) (T := ft_Q) (NF := 10) (v := .int (nI (K (8 + y) 7))) hx hb hts tw_fs_Q hown hK hP (hks.2.1 _ hy) (cw_CQ (Nat.lt_of_lt_of_le hy (cl_12 hC)) ad ca _ _ _ _) rfl 7 (by decide) (hts _ tw_fl_D_59) rfl rfl dd_D_withdraw_43 ?_
      refine lv_iconst (v := nI 1) hx hb dd_D_withdraw_46 (by decide) ?_
      refine lv_isub hx hb dd_D_withdraw_47 ?_
      rw [pk_sub (by omega)]
      refine cw_put1 (k := 8 + y) (C := rn_Q) (T := ft_Q) (NF := 10) (v := .int (nI ((K (8 + y) 7) - 1))) (ty := fy_Q 7) (M' := (sp_u K (8 + y) 7 ((K (8 + y) 7) - 1))) (X' := Y) (F' := F) (G' := G) hx hb hts tw_fs_Q fy_Q fo_Q fn_Q hown hK hP (cw_D hJ ca K Y F G) hS (hks.2.1 _ hy) (cw_CQ (Nat.lt_of_lt_of_le hy (cl_12 hC)) ad ca _ _ _ _) rfl 7 (by decide) (hts _ tw_fl_D_59) rfl rfl (fo_Q 7 (by decide)) rfl rfl (Nat.le_of_ble_eq_true rfl) (fun _ hq => sp_u_f _ _ _ hq) (fun _ _ => rfl) (fun _ _ => rfl) (fun _ _ => rfl) (by rw [sp_u_k K (8 + y) 7 ((K (8 + y) 7) - 1)]; exact (cw_CQ (Nat.lt_of_lt_of_le hy (cl_12 hC)) ad ca _ _ _ _)) dd_D_withdraw_48 (fun H locs hP hS => ?_)
      refine lv_aload_n hx hb dd_D_withdraw_51 rfl (lv_at hl 0 rfl) ?_
      refine cw_getn (k := 8 + y) (C := rn_Q) (T := ft_Q) (NF := 10) hx hb hts tw_fs_Q hown hK hP (hks.2.1 _ hy) (cw_CQ (Nat.lt_of_lt_of_le hy (cl_12 hC)) ad ca _ _ _ _) rfl 2 (by decide) (hts _ tw_fl_D_62) rfl rfl (cl_t0 hC hy hj3) dd_D_withdraw_52 ?_
      refine lv_astore_nN hx hb dd_D_withdraw_55 rfl hl (by decide) rfl (fun ls hl => ?_)
      have hl : lv_has ls 3 [(2, .null)] := hl
      refine lv_goto (tgt := 37) hx hb dd_D_withdraw_56 rfl ?_
      refine lv_aload_nN hx hb dd_D_withdraw_37 rfl (lv_at hl 0 rfl) ?_
      refine lv_ifnullN (tgt := 59) hx hb dd_D_withdraw_38 rfl ?_
      have eM : cs_wM M F N t = sp_u K (8 + y) 7 ((K (8 + y) 7) - 1) := by rw [← he, cs_dn_eq (cl_tr hC) K hy, if_pos hj3]; rfl
      have eX : cs_wX X N t = Y := by exact heX.symm
      exact W.vret hx hb hr (fun tt htt hWW => ⟨⟨(), rfl, trivial, by rw [htt, eM, eX]; exact hP, va_K.moved hWW.alike hK⟩, hS.F htt⟩) hS.2.2 dd_D_withdraw_59
    · have hyl := cl_tl hC hy hj3
      have hK7 := hbK y (sp_l_self N y) hy
      refine lv_aload_n hx hb dd_D_withdraw_37 rfl (lv_at hl 0 rfl) ?_
      refine lv_ifnull hx hb dd_D_withdraw_38 ?_
      refine lv_aload_n hx hb dd_D_withdraw_41 rfl (lv_at hl 0 rfl) ?_
      refine lv_dup hx hb dd_D_withdraw_42 rfl ?_
      refine cw_get1 (k := 8 + y) (C := rn_Q) (T := ft_Q) (NF := 10) (v := .int (nI (K (8 + y) 7))) hx hb hts tw_fs_Q hown hK hP (hks.2.1 _ hy) (cw_CQ (Nat.lt_of_lt_of_le hy (cl_12 hC)) ad ca _ _ _ _) rfl 7 (by decide) (hts _ tw_fl_D_59) rfl rfl dd_D_withdraw_43 ?_
      refine lv_iconst (v := nI 1) hx hb dd_D_withdraw_46 (by decide) ?_
      refine lv_isub hx hb dd_D_withdraw_47 ?_
      rw [pk_sub (by omega)]
      refine cw_put1 (k := 8 + y) (C := rn_Q) (T := ft_Q) (NF := 10) (v := .int (nI ((K (8 + y) 7) - 1))) (ty := fy_Q 7) (M' := (sp_u K (8 + y) 7 ((K (8 + y) 7) - 1))) (X' := Y) (F' := F) (G' := G) hx hb hts tw_fs_Q fy_Q fo_Q fn_Q hown hK hP (cw_D hJ ca K Y F G) hS (hks.2.1 _ hy) (cw_CQ (Nat.lt_of_lt_of_le hy (cl_12 hC)) ad ca _ _ _ _) rfl 7 (by decide) (hts _ tw_fl_D_59) rfl rfl (fo_Q 7 (by decide)) rfl rfl (Nat.le_of_ble_eq_true rfl) (fun _ hq => sp_u_f _ _ _ hq) (fun _ _ => rfl) (fun _ _ => rfl) (fun _ _ => rfl) (by rw [sp_u_k K (8 + y) 7 ((K (8 + y) 7) - 1)]; exact (cw_CQ (Nat.lt_of_lt_of_le hy (cl_12 hC)) ad ca _ _ _ _)) dd_D_withdraw_48 (fun H locs hP hS => ?_)
      refine lv_aload_n hx hb dd_D_withdraw_51 rfl (lv_at hl 0 rfl) ?_
      refine cw_getk (k := 8 + y) (C := rn_Q) (T := ft_Q) (NF := 10) hx hb hts tw_fs_Q hown hK hP (hks.2.1 _ hy) (cw_CQ (Nat.lt_of_lt_of_le hy (cl_12 hC)) ad ca _ _ _ _) rfl 2 (by decide) (hts _ tw_fl_D_62) rfl rfl (cl_t1 hC hy hj3) dd_D_withdraw_52 ?_
      refine lv_astore_n hx hb dd_D_withdraw_55 rfl hl (by decide) rfl (fun ls hl => ?_)
      have hl : lv_has ls 3 [(2, .ref (ad (8 + N 2 y)))] := hl
      refine lv_goto (tgt := 37) hx hb dd_D_withdraw_56 rfl ?_
      exact ih (cs_d1 K y) Y ls H locs (by rw [← he, cs_dn_eq (cl_tr hC) K hy, if_neg (by omega)]) heX (fun j hj hjl => by
        have hne : j ≠ y := fun q => by rw [q, sp_l_no (cl_tr hC) hj3 hy] at hj; cases hj
        have h9 := hbK j (by rw [sp_l_eq (cl_tr hC) hy, if_neg (by omega), if_neg (by omega)]; exact hj) hjl
        rw [cs_d1, sp_u_app, if_neg (by omega)]
        exact h9) hP hS (lv_sub hl [0] rfl)
  refine lv_aload_n hx hb dd_D_withdraw_0 rfl (lv_at hl 1 rfl) ?_
  refine cw_getr (k := 20 + t) (C := rn_B) (T := ft_B) (NF := 11) hx hb hts tw_fs_B hown hK hP (hks.2.2 _ ht) (cw_CB _ ad ca _ _ _ _) rfl 5 (by decide) (hts _ tw_fl_D_110) rfl rfl dd_D_withdraw_1 (fun h1 => ?_) (fun k9 h1 => ?_)
  · have ho9 := cl_cn hC ht h1
    have h06 := h06 ho9
    refine lv_ifnonnullN hx hb dd_D_withdraw_4 ?_
    refine lv_aload_n hx hb dd_D_withdraw_7 rfl (lv_at hl 0 rfl) ?_
    refine lv_dup hx hb dd_D_withdraw_8 rfl ?_
    refine cw_get1 (k := 0) (C := rn_D) (T := ft_D) (NF := 9) (v := .int (nI (M 0 6))) hx hb hts tw_fs_D hown hK hP (hks.1 0 (by decide)) (cw_C0 ad ca _ _ _ _) rfl 6 (by decide) (hts _ tw_fl_D_210) rfl rfl dd_D_withdraw_9 ?_
    refine lv_iconst (v := nI 1) hx hb dd_D_withdraw_12 (by decide) ?_
    refine lv_isub hx hb dd_D_withdraw_13 ?_
    rw [pk_sub (by omega)]
    refine cw_put1 (k := 0) (C := rn_D) (T := ft_D) (NF := 9) (v := .int (nI ((M 0 6) - 1))) (ty := fy_D 6) (M' := (sp_u M 0 6 ((M 0 6) - 1))) (X' := X) (F' := F) (G' := G) hx hb hts tw_fs_D fy_D fo_D fn_D hown hK hP (cw_D hJ ca M X F G) hS (hks.1 0 (by decide)) (cw_C0 ad ca _ _ _ _) rfl 6 (by decide) (hts _ tw_fl_D_210) rfl rfl (fo_D 6 (by decide)) rfl rfl (Nat.le_of_ble_eq_true rfl) (fun _ hq => sp_u_f _ _ _ hq) (fun _ _ => rfl) (fun _ _ => rfl) (fun _ _ => rfl) (by rw [sp_u_k M 0 6 ((M 0 6) - 1)]; exact (cw_C0 ad ca _ _ _ _)) dd_D_withdraw_14 (fun H locs hP hS => ?_)
    refine lv_aload_n hx hb dd_D_withdraw_17 rfl (lv_at hl 1 rfl) ?_
    refine cw_get1 (k := 20 + t) (C := rn_B) (T := ft_B) (NF := 11) (v := .int (bd_b (X (20 + t) 2))) hx hb hts tw_fs_B hown hK hP (hks.2.2 _ ht) (cw_CB _ ad ca _ _ _ _) rfl 2 (by decide) (hts _ tw_fl_D_201) rfl rfl dd_D_withdraw_18 ?_
    refine bq_zeq (tgt := 32) hx hb dd_D_withdraw_21 rfl (fun h21 => ?_) (fun h21 => ?_)
    · refine lv_aload_n hx hb dd_D_withdraw_32 rfl (lv_at hl 1 rfl) ?_
      refine cw_getk (k := 20 + t) (C := rn_B) (T := ft_B) (NF := 11) hx hb hts tw_fs_B hown hK hP (hks.2.2 _ ht) (cw_CB _ ad ca _ _ _ _) rfl 1 (by decide) (hts _ tw_fl_D_141) rfl rfl (cl_h hC ht) dd_D_withdraw_33 ?_
      refine lv_astore_n hx hb dd_D_withdraw_36 rfl hl (by decide) rfl (fun ls hl => ?_)
      have hl : lv_has ls 3 [(2, .ref (ad (8 + N 7 t))), (0, .ref (ad 0)), (1, .ref (ad (20 + t)))] := hl
      exact lp (N 7 t) (cl_hl hC ht) _ _ ls _ _ (by rw [cs_wM, h1]) (by rw [cs_wX, if_neg (by rw [h21]; decide)]) (fun j hj hjl => by rw [sp_u_app, if_neg (by omega)]; exact hb7 j hjl hj) hP hS (lv_sub hl [0] rfl)
    · refine lv_aload_n hx hb dd_D_withdraw_24 rfl (lv_at hl 1 rfl) ?_
      refine cw_getk (k := 20 + t) (C := rn_B) (T := ft_B) (NF := 11) hx hb hts tw_fs_B hown hK hP (hks.2.2 _ ht) (cw_CB _ ad ca _ _ _ _) rfl 1 (by decide) (hts _ tw_fl_D_141) rfl rfl (cl_h hC ht) dd_D_withdraw_25 ?_
      refine lv_iconst (v := bd_b false) hx hb dd_D_withdraw_28 (by decide) ?_
      refine cw_put1 (k := 8 + N 7 t) (C := rn_Q) (T := ft_Q) (NF := 10) (v := .int (bd_b false)) (ty := fy_Q 9) (M' := (sp_u M 0 6 ((M 0 6) - 1))) (X' := (sp_u X (8 + N 7 t) 9 false)) (F' := F) (G' := G) hx hb hts tw_fs_Q fy_Q fo_Q fn_Q hown hK hP (cw_D hJ ca (sp_u M 0 6 ((M 0 6) - 1)) X F G) hS (hks.2.1 _ (cl_hl hC ht)) (cw_CQ (Nat.lt_of_lt_of_le (cl_hl hC ht) (cl_12 hC)) ad ca _ _ _ _) rfl 9 (by decide) (hts _ tw_fl_D_213) rfl rfl (fo_Q 9 (by decide)) (bd_b_nar _) (bd_b_fit _) (Nat.le_of_ble_eq_true rfl) (fun _ _ => rfl) (fun _ hq => sp_u_f _ _ _ hq) (fun _ _ => rfl) (fun _ _ => rfl) (by rw [sp_u_k X (8 + N 7 t) 9 false]; exact (cw_CQ (Nat.lt_of_lt_of_le (cl_hl hC ht) (cl_12 hC)) ad ca _ _ _ _)) dd_D_withdraw_29 (fun H locs hP hS => ?_)
      refine lv_aload_n hx hb dd_D_withdraw_32 rfl (lv_at hl 1 rfl) ?_
      refine cw_getk (k := 20 + t) (C := rn_B) (T := ft_B) (NF := 11) hx hb hts tw_fs_B hown hK hP (hks.2.2 _ ht) (cw_CB _ ad ca _ _ _ _) rfl 1 (by decide) (hts _ tw_fl_D_141) rfl rfl (cl_h hC ht) dd_D_withdraw_33 ?_
      refine lv_astore_n hx hb dd_D_withdraw_36 rfl hl (by decide) rfl (fun ls hl => ?_)
      have hl : lv_has ls 3 [(2, .ref (ad (8 + N 7 t))), (0, .ref (ad 0)), (1, .ref (ad (20 + t)))] := hl
      exact lp (N 7 t) (cl_hl hC ht) _ _ ls _ _ (by rw [cs_wM, h1]) (by rw [cs_wX, if_pos h21]) (fun j hj hjl => by rw [sp_u_app, if_neg (by omega)]; exact hb7 j hjl hj) hP hS (lv_sub hl [0] rfl)
  · obtain ⟨cc9, hcc9, hclt, rfl⟩ := cl_cs hC ht h1
    refine lv_ifnonnull (tgt := 17) hx hb dd_D_withdraw_4 rfl ?_
    refine lv_aload_n hx hb dd_D_withdraw_17 rfl (lv_at hl 1 rfl) ?_
    refine cw_get1 (k := 20 + t) (C := rn_B) (T := ft_B) (NF := 11) (v := .int (bd_b (X (20 + t) 2))) hx hb hts tw_fs_B hown hK hP (hks.2.2 _ ht) (cw_CB _ ad ca _ _ _ _) rfl 2 (by decide) (hts _ tw_fl_D_201) rfl rfl dd_D_withdraw_18 ?_
    refine bq_zeq (tgt := 32) hx hb dd_D_withdraw_21 rfl (fun h21 => ?_) (fun h21 => ?_)
    · refine lv_aload_n hx hb dd_D_withdraw_32 rfl (lv_at hl 1 rfl) ?_
      refine cw_getk (k := 20 + t) (C := rn_B) (T := ft_B) (NF := 11) hx hb hts tw_fs_B hown hK hP (hks.2.2 _ ht) (cw_CB _ ad ca _ _ _ _) rfl 1 (by decide) (hts _ tw_fl_D_141) rfl rfl (cl_h hC ht) dd_D_withdraw_33 ?_
      refine lv_astore_n hx hb dd_D_withdraw_36 rfl hl (by decide) rfl (fun ls hl => ?_)
      have hl : lv_has ls 3 [(2, .ref (ad (8 + N 7 t))), (0, .ref (ad 0)), (1, .ref (ad (20 + t)))] := hl
      exact lp (N 7 t) (cl_hl hC ht) _ _ ls _ _ (by rw [cs_wM, h1]) (by rw [cs_wX, if_neg (by rw [h21]; decide)]) (fun j hj hjl => by exact hb7 j hjl hj) hP hS (lv_sub hl [0] rfl)
    · refine lv_aload_n hx hb dd_D_withdraw_24 rfl (lv_at hl 1 rfl) ?_
      refine cw_getk (k := 20 + t) (C := rn_B) (T := ft_B) (NF := 11) hx hb hts tw_fs_B hown hK hP (hks.2.2 _ ht) (cw_CB _ ad ca _ _ _ _) rfl 1 (by decide) (hts _ tw_fl_D_141) rfl rfl (cl_h hC ht) dd_D_withdraw_25 ?_
      refine lv_iconst (v := bd_b false) hx hb dd_D_withdraw_28 (by decide) ?_
      refine cw_put1 (k := 8 + N 7 t) (C := rn_Q) (T := ft_Q) (NF := 10) (v := .int (bd_b false)) (ty := fy_Q 9) (M' := M) (X' := (sp_u X (8 + N 7 t) 9 false)) (F' := F) (G' := G) hx hb hts tw_fs_Q fy_Q fo_Q fn_Q hown hK hP (cw_D hJ ca M X F G) hS (hks.2.1 _ (cl_hl hC ht)) (cw_CQ (Nat.lt_of_lt_of_le (cl_hl hC ht) (cl_12 hC)) ad ca _ _ _ _) rfl 9 (by decide) (hts _ tw_fl_D_213) rfl rfl (fo_Q 9 (by decide)) (bd_b_nar _) (bd_b_fit _) (Nat.le_of_ble_eq_true rfl) (fun _ _ => rfl) (fun _ hq => sp_u_f _ _ _ hq) (fun _ _ => rfl) (fun _ _ => rfl) (by rw [sp_u_k X (8 + N 7 t) 9 false]; exact (cw_CQ (Nat.lt_of_lt_of_le (cl_hl hC ht) (cl_12 hC)) ad ca _ _ _ _)) dd_D_withdraw_29 (fun H locs hP hS => ?_)
      refine lv_aload_n hx hb dd_D_withdraw_32 rfl (lv_at hl 1 rfl) ?_
      refine cw_getk (k := 20 + t) (C := rn_B) (T := ft_B) (NF := 11) hx hb hts tw_fs_B hown hK hP (hks.2.2 _ ht) (cw_CB _ ad ca _ _ _ _) rfl 1 (by decide) (hts _ tw_fl_D_141) rfl rfl (cl_h hC ht) dd_D_withdraw_33 ?_
      refine lv_astore_n hx hb dd_D_withdraw_36 rfl hl (by decide) rfl (fun ls hl => ?_)
      have hl : lv_has ls 3 [(2, .ref (ad (8 + N 7 t))), (0, .ref (ad 0)), (1, .ref (ad (20 + t)))] := hl
      exact lp (N 7 t) (cl_hl hC ht) _ _ ls _ _ (by rw [cs_wM, h1]) (by rw [cs_wX, if_pos h21]) (fun j hj hjl => by exact hb7 j hjl hj) hP hS (lv_sub hl [0] rfl)

theorem cs_lM_3 (K : sp_N) (N : sp_N) (t k : Nat) : cs_lM K N t k 3 = if k = 20 + t then 2 else K k 3 := by
  unfold cs_lM
  rw [sp_u_app, if_neg (by omega), sp_u_app, if_neg (by omega), sp_u_app, if_neg (by omega), sp_u_app]
  simp
theorem cw_oeq {ks : List Nat} {ad : Nat → Nat} (hJ : cw_J ks ad) {o : Option Nat} {k : Nat} (ho : ∀ z, o = some z → z ∈ ks) (hk : k ∈ ks) : o.map ad = some (ad k) ↔ o = some k := by
  cases o with
  | none => exact ⟨fun h => (by cases h), fun h => (by cases h)⟩
  | some z => exact ⟨fun h => by rw [cw_inj hJ (ho z rfl) hk (Option.some.inj h)], fun h => by rw [Option.some.inj h]; rfl⟩
theorem cl_B_u {M : sp_N} (h : cl_B M) {k f v : Nat} (hv : v < 2 ^ 31) : cl_B (sp_u M k f v) := by
  intro a b
  rw [sp_u_app]
  split
  · exact hv
  · exact h a b
set_option maxHeartbeats 4000000 in
set_option maxRecDepth 100000 in
theorem cc_D_releaseIfEmpty (l : Launch) (D : va_G) (ks : List Nat) (ad : Nat → Nat) (ca : Nat → ClassId) (hJ : cw_J ks ad) (M : sp_N) (X : sp_B) (F : sp_O) (G : sp_Z) (N : sp_N) (O : sp_O) (B : sp_B) (hC : cl_S M X F N O B) (hks : cl_k ks N) (hMB : cl_B M) (g : Nat) (hg : g < 4) : Met l my_D_releaseIfEmpty (Cond.code my_D_releaseIfEmpty cd_D_releaseIfEmpty 3 none :: bg_tbl) ({ frames := 2, cells := 0, slots := 0, locals := 42 }) (va_Pc [.ref (ad 0), .ref (ad (4 + g))] (cw_U D ks ad ca M X F G)) (va_Qv (fun (_ : Unit) => True) (fun _ uu => cw_U D ks ad ca ((cs_R M F N g).1) X ((cs_R M F N g).2) G uu) (cw_A ks ad)) 0 0 (cw_A ks ad) := by
  refine Met.ofW (cc := cd_D_releaseIfEmpty) (maxL := 3) (ret := none) (by decide) rfl ?_
  intro p e s m args below meth c s₁ BB hml hv
  obtain ⟨rfl, hP, hK⟩ := hv
  have hx := BB.exec
  have hb := BB.bytes
  have hr := BB.returns
  have hts : ∀ w ∈ bg_tbl, w.before ([.ref (ad 0), .ref (ad (4 + g))] : List Value).toArray s = true := fun w h => atoms_spec (ws := (Cond.code my_D_releaseIfEmpty cd_D_releaseIfEmpty 3 none :: bg_tbl)) BB.pre w (List.mem_cons_of_mem _ h)
  have hown : s.vm.findClass rn_D = some m.cls := findClass_of_methodNamed BB.named
  have hlocks := BB.notSynchronized
  have h12 := cl_12 hC
  have h160 := cl_160 hC
  have h3q := cl_3 hC
  have hM4 := cl_M4 hC
  have hM5 := cl_M5 hC
  have hS : va_S (cw_A ks ad) s.heap s.heap [] := va_S.rf
  have hl := lv_entry ([.ref (ad 0), .ref (ad (4 + g))]) (n := 3) (Nat.le_of_ble_eq_true rfl)
  rw [lg_entry_eq]
  generalize (lg_sl ([.ref (ad 0), .ref (ad (4 + g))]) ++ List.replicate (3 - (lg_sl ([.ref (ad 0), .ref (ad (4 + g))])).length) Slot.unset).toArray = ls at hl ⊢
  have hl : lv_has ls 3 [(0, .ref (ad 0)), (1, .ref (ad (4 + g)))] := hl
  refine lv_aload_n hx hb dd_D_releaseIfEmpty_0 rfl (lv_at hl 1 rfl) ?_
  refine cw_calli (k := 4 + g) (C := rn_G) (T := ft_G) (NF := 2) (As := []) (rest := []) (v := bd_b (decide (M (4 + g) 0 = 0) && decide (M (4 + g) 1 = 0))) ⟨hx, hb, hml, hown, hts⟩ (cc_G_isEmpty l D ks ad ca M X F G N O B hC hks hMB g hg) (bg_cwV 0 hts tw_ml_D_114 tw_im_G_isEmpty tw_se_G_isEmpty tw_in_G tw_co_G_isEmpty rfl rfl th_G_isEmpty ⟨Nat.le_of_ble_eq_true rfl, Nat.le_of_ble_eq_true rfl⟩) hK hP (hks.1 _ (by omega)) (cw_CG hg ad ca _ _ _ _) rfl rfl hl.1 rfl (Nat.le_of_ble_eq_true rfl) dd_D_releaseIfEmpty_1 ⟨Nat.zero_le _, Nat.zero_le _⟩ ?_
  refine bq_zne (tgt := 8) hx hb dd_D_releaseIfEmpty_4 rfl (fun h4 => ?_) (fun h4 => ?_)
  · have lp : ∀ (n : Nat) (i : Nat) (K : sp_N) (E : sp_O) (ls : Array Slot) (H : Heap) (locs : List Loc), (n + i = N 6 0) → ((K, E) = cs_r M F N g i) → cl_S K X E N O B → (∀ k, K k 3 < 2 ^ 31) → va_P D vw_cl (cw_W ks ad ca K X E G) H → va_S (cw_A ks ad) s.heap H locs → lv_has ls 3 [(0, .ref (ad 0)), (1, .ref (ad (4 + g))), (2, .int (nI i))] → W p l e (headSpec (Cond.code my_D_releaseIfEmpty cd_D_releaseIfEmpty 3 none :: bg_tbl) ({ frames := 2, cells := 0, slots := 0, locals := 42 })).room s m ([.ref (ad 0), .ref (ad (4 + g))] : List Value).toArray below meth c H locs 0 0 (MQ below (va_Qv (fun (_ : Unit) => True) (fun _ uu => cw_U D ks ad ca ((cs_R M F N g).1) X ((cs_R M F N g).2) G uu) (cw_A ks ad)) ([.ref (ad 0), .ref (ad (4 + g))] : List Value).toArray s 0 0 (cw_A ks ad)) (F0 m 10 ls []) := by
      intro n
      induction n with
      | zero =>
        intro i K E ls H locs hk he hC h3b hP hS hl
        have hM4 := cl_M4 hC
        have hM5 := cl_M5 hC
        refine lv_iload_n hx hb dd_D_releaseIfEmpty_10 rfl (lv_at hl 2 rfl) ?_
        refine lv_aload_n hx hb dd_D_releaseIfEmpty_11 rfl (lv_at hl 0 rfl) ?_
        refine cw_get1 (k := 0) (C := rn_D) (T := ft_D) (NF := 9) (v := .int (nI (K 0 5))) hx hb hts tw_fs_D hown hK hP (hks.1 0 (by decide)) (cw_C0 ad ca _ _ _ _) rfl 5 (by decide) (hts _ tw_fl_D_181) rfl rfl dd_D_releaseIfEmpty_12 ?_
        refine bq_ge (tgt := 59) hx hb (by omega) (by omega) dd_D_releaseIfEmpty_15 rfl (fun h15 => ?_) (fun h15 => ?_)
        · have eM : (cs_R M F N g).1 = K := by rw [cs_R, if_pos (by simpa using h4), show N 6 0 = i by omega, ← he]
          have eF : (cs_R M F N g).2 = E := by rw [cs_R, if_pos (by simpa using h4), show N 6 0 = i by omega, ← he]
          exact W.vret hx hb hr (fun tt htt hWW => ⟨⟨(), rfl, trivial, by rw [htt, eM, eF]; exact hP, va_K.moved hWW.alike hK⟩, hS.F htt⟩) hS.2.2 dd_D_releaseIfEmpty_59
        · exact absurd h15 (by omega)
      | succ n ih =>
        intro i K E ls H locs hk he hC h3b hP hS hl
        have hM4 := cl_M4 hC
        have hM5 := cl_M5 hC
        have hi : i < N 6 0 := by omega
        refine lv_iload_n hx hb dd_D_releaseIfEmpty_10 rfl (lv_at hl 2 rfl) ?_
        refine lv_aload_n hx hb dd_D_releaseIfEmpty_11 rfl (lv_at hl 0 rfl) ?_
        refine cw_get1 (k := 0) (C := rn_D) (T := ft_D) (NF := 9) (v := .int (nI (K 0 5))) hx hb hts tw_fs_D hown hK hP (hks.1 0 (by decide)) (cw_C0 ad ca _ _ _ _) rfl 5 (by decide) (hts _ tw_fl_D_181) rfl rfl dd_D_releaseIfEmpty_12 ?_
        refine bq_ge (tgt := 59) hx hb (by omega) (by omega) dd_D_releaseIfEmpty_15 rfl (fun h15 => ?_) (fun h15 => ?_)
        · exact absurd h15 (by omega)
        · refine lv_aload_n hx hb dd_D_releaseIfEmpty_18 rfl (lv_at hl 0 rfl) ?_
          refine cw_getk (k := 0) (C := rn_D) (T := ft_D) (NF := 9) hx hb hts tw_fs_D hown hK hP (hks.1 0 (by decide)) (cw_C0 ad ca _ _ _ _) rfl 2 (by decide) (hts _ tw_fl_D_30) rfl rfl (cl_F2 hC) dd_D_releaseIfEmpty_19 ?_
          refine lv_iload_n hx hb dd_D_releaseIfEmpty_22 rfl (lv_at hl 2 rfl) ?_
          refine cw_aalk (k := 2) (t0 := 1) hx hb hK hP (hks.1 2 (by decide)) (by decide) (by decide) rfl (j := i) (Nat.lt_of_lt_of_le hi (cl_160 hC)) (cl_b hC hi) dd_D_releaseIfEmpty_23 ?_
          refine cw_get1 (k := 20 + i) (C := rn_B) (T := ft_B) (NF := 11) (v := .int (nI (K (20 + i) 3))) hx hb hts tw_fs_B hown hK hP (hks.2.2 _ hi) (cw_CB _ ad ca _ _ _ _) rfl 3 (by decide) (hts _ tw_fl_D_91) rfl rfl dd_D_releaseIfEmpty_24 ?_
          refine bq_nne (tgt := 53) hx hb (h3b _) dd_D_releaseIfEmpty_27 rfl (fun h27 => ?_) (fun h27 => ?_)
          · refine lv_iinc (k := 2) (v := nI (i + 1)) hx hb dd_D_releaseIfEmpty_53 hl rfl (nI_1 _) (by decide) rfl (fun ls hl => ?_)
            have hl : lv_has ls 3 [(2, .int (nI (i + 1))), (0, .ref (ad 0)), (1, .ref (ad (4 + g)))] := hl
            refine lv_goto (tgt := 10) hx hb dd_D_releaseIfEmpty_56 rfl ?_
            exact ih (i + 1) K E ls H locs (by omega) (by rw [cs_r, ← he]; simp [h15, Nat.not_le.mpr h15, h27]) hC h3b hP hS (lv_sub hl [1, 2, 0] rfl)
          · refine lv_aload_n hx hb dd_D_releaseIfEmpty_30 rfl (lv_at hl 0 rfl) ?_
            refine cw_getk (k := 0) (C := rn_D) (T := ft_D) (NF := 9) hx hb hts tw_fs_D hown hK hP (hks.1 0 (by decide)) (cw_C0 ad ca _ _ _ _) rfl 2 (by decide) (hts _ tw_fl_D_30) rfl rfl (cl_F2 hC) dd_D_releaseIfEmpty_31 ?_
            refine lv_iload_n hx hb dd_D_releaseIfEmpty_34 rfl (lv_at hl 2 rfl) ?_
            refine cw_aalk (k := 2) (t0 := 1) hx hb hK hP (hks.1 2 (by decide)) (by decide) (by decide) rfl (j := i) (Nat.lt_of_lt_of_le hi (cl_160 hC)) (cl_b hC hi) dd_D_releaseIfEmpty_35 ?_
            refine cw_get1 (k := 20 + i) (C := rn_B) (T := ft_B) (NF := 11) (v := va_rf ((E (20 + i) 7).map ad)) hx hb hts tw_fs_B hown hK hP (hks.2.2 _ hi) (cw_CB _ ad ca _ _ _ _) rfl 7 (by decide) (hts _ tw_fl_D_117) rfl rfl dd_D_releaseIfEmpty_36 ?_
            refine lv_aload_n hx hb dd_D_releaseIfEmpty_39 rfl (lv_at hl 1 rfl) ?_
            refine lv_acmp_ne (rx := (E (20 + i) 7).map ad) (ry := some (ad (4 + g))) (tgt := 53) hx hb dd_D_releaseIfEmpty_40 rfl (fun h40 => ?_) (fun h40 => ?_)
            · have hce := cw_oeq hJ (o := E (20 + i) 7) (k := 4 + g) (fun z hz => by obtain ⟨g9, hg9, rfl⟩ := cl_hs hC hi hz; exact hks.1 _ (by omega)) (hks.1 _ (by omega))
              have h40 : ¬ E (20 + i) 7 = some (4 + g) := fun q => h40 (hce.mpr q)
              refine lv_iinc (k := 2) (v := nI (i + 1)) hx hb dd_D_releaseIfEmpty_53 hl rfl (nI_1 _) (by decide) rfl (fun ls hl => ?_)
              have hl : lv_has ls 3 [(2, .int (nI (i + 1))), (0, .ref (ad 0)), (1, .ref (ad (4 + g)))] := hl
              refine lv_goto (tgt := 10) hx hb dd_D_releaseIfEmpty_56 rfl ?_
              exact ih (i + 1) K E ls H locs (by omega) (by rw [cs_r, ← he]; simp [h15, Nat.not_le.mpr h15, h27, h40]) hC h3b hP hS (lv_sub hl [1, 2, 0] rfl)
            · have hce := cw_oeq hJ (o := E (20 + i) 7) (k := 4 + g) (fun z hz => by obtain ⟨g9, hg9, rfl⟩ := cl_hs hC hi hz; exact hks.1 _ (by omega)) (hks.1 _ (by omega))
              have h40 : E (20 + i) 7 = some (4 + g) := hce.mp h40
              refine lv_aload_n hx hb dd_D_releaseIfEmpty_43 rfl (lv_at hl 0 rfl) ?_
              refine lv_aload_n hx hb dd_D_releaseIfEmpty_44 rfl (lv_at hl 0 rfl) ?_
              refine cw_getk (k := 0) (C := rn_D) (T := ft_D) (NF := 9) hx hb hts tw_fs_D hown hK hP (hks.1 0 (by decide)) (cw_C0 ad ca _ _ _ _) rfl 2 (by decide) (hts _ tw_fl_D_30) rfl rfl (cl_F2 hC) dd_D_releaseIfEmpty_45 ?_
              refine lv_iload_n hx hb dd_D_releaseIfEmpty_48 rfl (lv_at hl 2 rfl) ?_
              refine cw_aalk (k := 2) (t0 := 1) hx hb hK hP (hks.1 2 (by decide)) (by decide) (by decide) rfl (j := i) (Nat.lt_of_lt_of_le hi (cl_160 hC)) (cl_b hC hi) dd_D_releaseIfEmpty_49 ?_
              refine cw_callwv (k := 0) (C := rn_D) (T := ft_D) (NF := 9) (As := [.ref (ad (20 + i))]) (rest := []) ⟨hx, hb, hml, hown, hts⟩ (cc_D_line l D ks ad ca hJ K X E G N O B hC hks i hi) (bg_cwV 1 hts tw_ml_D_84 tw_im_D_line tw_se_D_line tw_in_D tw_co_D_line rfl rfl th_D_line ⟨Nat.le_of_ble_eq_true rfl, Nat.le_of_ble_eq_true rfl⟩) hK hP hS (hks.1 0 (by decide)) (cw_C0 ad ca _ _ _ _) rfl rfl hl.1 rfl (Nat.le_of_ble_eq_true rfl) dd_D_releaseIfEmpty_50 ⟨Nat.zero_le _, Nat.zero_le _⟩ (fun H locs hP hS => ?_)
              refine lv_iinc (k := 2) (v := nI (i + 1)) hx hb dd_D_releaseIfEmpty_53 hl rfl (nI_1 _) (by decide) rfl (fun ls hl => ?_)
              have hl : lv_has ls 3 [(2, .int (nI (i + 1))), (0, .ref (ad 0)), (1, .ref (ad (4 + g)))] := hl
              refine lv_goto (tgt := 10) hx hb dd_D_releaseIfEmpty_56 rfl ?_
              exact ih (i + 1) (cs_lM K N i) (cs_aF E (N 7 i) i) ls H locs (by omega) (by rw [cs_r, ← he]; simp [h15, Nat.not_le.mpr h15, h27, h40]) (cl_S_l hC hi) (fun k => by rw [cs_lM_3]; split; decide; exact h3b k) hP hS (lv_sub hl [1, 2, 0] rfl)
    refine lv_iconst (v := nI 0) hx hb dd_D_releaseIfEmpty_8 (by decide) ?_
    refine lv_istore_n hx hb dd_D_releaseIfEmpty_9 rfl hl (by decide) rfl (fun ls hl => ?_)
    have hl : lv_has ls 3 [(2, .int (nI 0)), (0, .ref (ad 0)), (1, .ref (ad (4 + g)))] := hl
    exact lp (N 6 0) 0 M F ls _ _ (by omega) rfl hC (fun k => hMB k 3) hP hS (lv_sub hl [1, 2, 0] rfl)
  · have eM : (cs_R M F N g).1 = M := by rw [cs_R, if_neg (by intro q9; simp [q9.1, q9.2] at h4)]
    have eF : (cs_R M F N g).2 = F := by rw [cs_R, if_neg (by intro q9; simp [q9.1, q9.2] at h4)]
    exact W.vret hx hb hr (fun tt htt hWW => ⟨⟨(), rfl, trivial, by rw [htt, eM, eF]; exact hP, va_K.moved hWW.alike hK⟩, hS.F htt⟩) hS.2.2 dd_D_releaseIfEmpty_7

set_option maxHeartbeats 4000000 in
set_option maxRecDepth 100000 in
theorem cc_D_conclude (l : Launch) (D : va_G) (ks : List Nat) (ad : Nat → Nat) (ca : Nat → ClassId) (hJ : cw_J ks ad) (M : sp_N) (X : sp_B) (F : sp_O) (G : sp_Z) (N : sp_N) (O : sp_O) (B : sp_B) (hC : cl_S M X F N O B) (hks : cl_k ks N) (hMB : cl_B M) (t v : Nat) (ht : t < N 6 0) (hv : v < 7) (h1m : ∀ g, O 10 t = some g → 1 ≤ M (4 + g) 1) : Met l my_D_conclude (Cond.code my_D_conclude cd_D_conclude 3 none :: bg_tbl) ({ frames := 3, cells := 0, slots := 0, locals := 64 }) (va_Pc [.ref (ad 0), .ref (ad (20 + t)), .int (nI v)] (cw_U D ks ad ca M X F G)) (va_Qv (fun (_ : Unit) => True) (fun _ uu => cw_U D ks ad ca ((cs_cc M F N t v).1) X ((cs_cc M F N t v).2) G uu) (cw_A ks ad)) 0 0 (cw_A ks ad) := by
  refine Met.ofW (cc := cd_D_conclude) (maxL := 3) (ret := none) (by decide) rfl ?_
  intro p e s m args below meth c s₁ BB hml hv
  obtain ⟨rfl, hP, hK⟩ := hv
  have hx := BB.exec
  have hb := BB.bytes
  have hr := BB.returns
  have hts : ∀ w ∈ bg_tbl, w.before ([.ref (ad 0), .ref (ad (20 + t)), .int (nI v)] : List Value).toArray s = true := fun w h => atoms_spec (ws := (Cond.code my_D_conclude cd_D_conclude 3 none :: bg_tbl)) BB.pre w (List.mem_cons_of_mem _ h)
  have hown : s.vm.findClass rn_D = some m.cls := findClass_of_methodNamed BB.named
  have hlocks := BB.notSynchronized
  have h12 := cl_12 hC
  have h160 := cl_160 hC
  have h3q := cl_3 hC
  have hM4 := cl_M4 hC
  have hM5 := cl_M5 hC
  have hS : va_S (cw_A ks ad) s.heap s.heap [] := va_S.rf
  have hl := lv_entry ([.ref (ad 0), .ref (ad (20 + t)), .int (nI v)]) (n := 3) (Nat.le_of_ble_eq_true rfl)
  rw [lg_entry_eq]
  generalize (lg_sl ([.ref (ad 0), .ref (ad (20 + t)), .int (nI v)]) ++ List.replicate (3 - (lg_sl ([.ref (ad 0), .ref (ad (20 + t)), .int (nI v)])).length) Slot.unset).toArray = ls at hl ⊢
  have hl : lv_has ls 3 [(0, .ref (ad 0)), (1, .ref (ad (20 + t))), (2, .int (nI v))] := hl
  refine lv_aload_n hx hb dd_D_conclude_0 rfl (lv_at hl 1 rfl) ?_
  refine lv_iload_n hx hb dd_D_conclude_1 rfl (lv_at hl 2 rfl) ?_
  refine cw_put1 (k := 20 + t) (C := rn_B) (T := ft_B) (NF := 11) (v := .int (nI v)) (ty := fy_B 3) (M' := (sp_u M (20 + t) 3 v)) (X' := X) (F' := F) (G' := G) hx hb hts tw_fs_B fy_B fo_B fn_B hown hK hP (cw_D hJ ca M X F G) hS (hks.2.2 _ ht) (cw_CB _ ad ca _ _ _ _) rfl 3 (by decide) (hts _ tw_fl_D_91) rfl rfl (fo_B 3 (by decide)) rfl rfl (Nat.le_of_ble_eq_true rfl) (fun _ hq => sp_u_f _ _ _ hq) (fun _ _ => rfl) (fun _ _ => rfl) (fun _ _ => rfl) (by rw [sp_u_k M (20 + t) 3 v]; exact (cw_CB _ ad ca _ _ _ _)) dd_D_conclude_2 (fun H locs hP hS => ?_)
  refine lv_aload_n hx hb dd_D_conclude_5 rfl (lv_at hl 1 rfl) ?_
  refine cw_getr (k := 20 + t) (C := rn_B) (T := ft_B) (NF := 11) hx hb hts tw_fs_B hown hK hP (hks.2.2 _ ht) (cw_CB _ ad ca _ _ _ _) rfl 5 (by decide) (hts _ tw_fl_D_110) rfl rfl dd_D_conclude_6 (fun h6 => ?_) (fun k9 h6 => ?_)
  · have ho9 := cl_cn hC ht h6
    refine lv_ifnullN (tgt := 20) hx hb dd_D_conclude_9 rfl ?_
    refine lv_aload_n hx hb dd_D_conclude_20 rfl (lv_at hl 1 rfl) ?_
    refine cw_getr (k := 20 + t) (C := rn_B) (T := ft_B) (NF := 11) hx hb hts tw_fs_B hown hK hP (hks.2.2 _ ht) (cw_CB _ ad ca _ _ _ _) rfl 6 (by decide) (hts _ tw_fl_D_77) rfl rfl dd_D_conclude_21 (fun h21 => ?_) (fun k9 h21 => ?_)
    · have hm9 := cl_mn hC ht h21
      refine lv_ifnullN (tgt := 48) hx hb dd_D_conclude_24 rfl ?_
      have eM : (cs_cc M F N t v).1 = sp_u M (20 + t) 3 v := by simp only [cs_cc, h21, cs_c1, h6]
      have eF : (cs_cc M F N t v).2 = F := by simp only [cs_cc, h21, cs_c1, h6]
      exact W.vret hx hb hr (fun tt htt hWW => ⟨⟨(), rfl, trivial, by rw [htt, eM, eF]; exact hP, va_K.moved hWW.alike hK⟩, hS.F htt⟩) hS.2.2 dd_D_conclude_48
    · obtain ⟨gg9, hgg9, hglt, rfl⟩ := cl_ms hC ht h21
      have h1m := h1m _ hgg9
      have hMg := hMB (4 + gg9) 1
      refine lv_ifnull hx hb dd_D_conclude_24 ?_
      refine lv_aload_n hx hb dd_D_conclude_27 rfl (lv_at hl 1 rfl) ?_
      refine cw_getk (k := 20 + t) (C := rn_B) (T := ft_B) (NF := 11) hx hb hts tw_fs_B hown hK hP (hks.2.2 _ ht) (cw_CB _ ad ca _ _ _ _) rfl 6 (by decide) (hts _ tw_fl_D_77) rfl rfl h21 dd_D_conclude_28 ?_
      refine lv_dup hx hb dd_D_conclude_31 rfl ?_
      refine cw_get1 (k := 4 + gg9) (C := rn_G) (T := ft_G) (NF := 2) (v := .int (nI ((sp_u M (20 + t) 3 v) (4 + gg9) 1))) hx hb hts tw_fs_G hown hK hP (hks.1 _ (by omega)) (cw_CG hglt ad ca _ _ _ _) rfl 1 (by decide) (hts _ tw_fl_D_81) rfl rfl dd_D_conclude_32 ?_
      rw [show (sp_u M (20 + t) 3 v) (4 + gg9) 1 = M (4 + gg9) 1 from by rw [sp_u_app, if_neg (by omega)]]
      refine lv_iconst (v := nI 1) hx hb dd_D_conclude_35 (by decide) ?_
      refine lv_isub hx hb dd_D_conclude_36 ?_
      rw [pk_sub (by omega)]
      refine cw_put1 (k := 4 + gg9) (C := rn_G) (T := ft_G) (NF := 2) (v := .int (nI ((M (4 + gg9) 1) - 1))) (ty := fy_G 1) (M' := (sp_u (sp_u M (20 + t) 3 v) (4 + gg9) 1 ((M (4 + gg9) 1) - 1))) (X' := X) (F' := F) (G' := G) hx hb hts tw_fs_G fy_G fo_G fn_G hown hK hP (cw_D hJ ca (sp_u M (20 + t) 3 v) X F G) hS (hks.1 _ (by omega)) (cw_CG hglt ad ca _ _ _ _) rfl 1 (by decide) (hts _ tw_fl_D_81) rfl rfl (fo_G 1 (by decide)) rfl rfl (Nat.le_of_ble_eq_true rfl) (fun _ hq => sp_u_f _ _ _ hq) (fun _ _ => rfl) (fun _ _ => rfl) (fun _ _ => rfl) (by rw [sp_u_k (sp_u M (20 + t) 3 v) (4 + gg9) 1 ((M (4 + gg9) 1) - 1)]; exact (cw_CG hglt ad ca _ _ _ _)) dd_D_conclude_37 (fun H locs hP hS => ?_)
      refine lv_aload_n hx hb dd_D_conclude_40 rfl (lv_at hl 0 rfl) ?_
      refine lv_aload_n hx hb dd_D_conclude_41 rfl (lv_at hl 1 rfl) ?_
      refine cw_getk (k := 20 + t) (C := rn_B) (T := ft_B) (NF := 11) hx hb hts tw_fs_B hown hK hP (hks.2.2 _ ht) (cw_CB _ ad ca _ _ _ _) rfl 6 (by decide) (hts _ tw_fl_D_77) rfl rfl h21 dd_D_conclude_42 ?_
      refine cw_callwv (k := 0) (C := rn_D) (T := ft_D) (NF := 9) (As := [.ref (ad (4 + gg9))]) (rest := []) ⟨hx, hb, hml, hown, hts⟩ (cc_D_releaseIfEmpty l D ks ad ca hJ (sp_u (sp_u M (20 + t) 3 v) (4 + gg9) 1 ((M (4 + gg9) 1) - 1)) X F G N O B (cl_S_M (cl_S_M hC (by decide) (Or.inl (by omega))) (by decide) (Or.inl (by omega))) hks (cl_B_u (cl_B_u hMB (by omega)) (by omega)) gg9 hglt) (bg_cwV 1 hts tw_ml_D_123 tw_im_D_releaseIfEmpty tw_se_D_releaseIfEmpty tw_in_D tw_co_D_releaseIfEmpty rfl rfl th_D_releaseIfEmpty ⟨Nat.le_of_ble_eq_true rfl, Nat.le_of_ble_eq_true rfl⟩) hK hP hS (hks.1 0 (by decide)) (cw_C0 ad ca _ _ _ _) rfl rfl hl.1 rfl (Nat.le_of_ble_eq_true rfl) dd_D_conclude_45 ⟨Nat.zero_le _, Nat.zero_le _⟩ (fun H locs hP hS => ?_)
      have eM : (cs_cc M F N t v).1 = (cs_R (sp_u (sp_u M (20 + t) 3 v) (4 + gg9) 1 ((M (4 + gg9) 1) - 1)) F N gg9).1 := by simp only [cs_cc, h21, cs_c1, h6, Nat.add_sub_cancel_left]
      have eF : (cs_cc M F N t v).2 = (cs_R (sp_u (sp_u M (20 + t) 3 v) (4 + gg9) 1 ((M (4 + gg9) 1) - 1)) F N gg9).2 := by simp only [cs_cc, h21, cs_c1, h6, Nat.add_sub_cancel_left]
      exact W.vret hx hb hr (fun tt htt hWW => ⟨⟨(), rfl, trivial, by rw [htt, eM, eF]; exact hP, va_K.moved hWW.alike hK⟩, hS.F htt⟩) hS.2.2 dd_D_conclude_48
  · obtain ⟨cc9, hcc9, hclt, rfl⟩ := cl_cs hC ht h6
    refine lv_ifnull hx hb dd_D_conclude_9 ?_
    refine lv_aload_n hx hb dd_D_conclude_12 rfl (lv_at hl 1 rfl) ?_
    refine cw_getk (k := 20 + t) (C := rn_B) (T := ft_B) (NF := 11) hx hb hts tw_fs_B hown hK hP (hks.2.2 _ ht) (cw_CB _ ad ca _ _ _ _) rfl 5 (by decide) (hts _ tw_fl_D_110) rfl rfl h6 dd_D_conclude_13 ?_
    refine lv_iconst (v := nI 3) hx hb dd_D_conclude_16 (by decide) ?_
    refine cw_put1 (k := 20 + cc9) (C := rn_B) (T := ft_B) (NF := 11) (v := .int (nI 3)) (ty := fy_B 3) (M' := (sp_u (sp_u M (20 + t) 3 v) (20 + cc9) 3 3)) (X' := X) (F' := F) (G' := G) hx hb hts tw_fs_B fy_B fo_B fn_B hown hK hP (cw_D hJ ca (sp_u M (20 + t) 3 v) X F G) hS (hks.2.2 _ (by omega)) (cw_CB _ ad ca _ _ _ _) rfl 3 (by decide) (hts _ tw_fl_D_91) rfl rfl (fo_B 3 (by decide)) rfl rfl (Nat.le_of_ble_eq_true rfl) (fun _ hq => sp_u_f _ _ _ hq) (fun _ _ => rfl) (fun _ _ => rfl) (fun _ _ => rfl) (by rw [sp_u_k (sp_u M (20 + t) 3 v) (20 + cc9) 3 3]; exact (cw_CB _ ad ca _ _ _ _)) dd_D_conclude_17 (fun H locs hP hS => ?_)
    refine lv_aload_n hx hb dd_D_conclude_20 rfl (lv_at hl 1 rfl) ?_
    refine cw_getr (k := 20 + t) (C := rn_B) (T := ft_B) (NF := 11) hx hb hts tw_fs_B hown hK hP (hks.2.2 _ ht) (cw_CB _ ad ca _ _ _ _) rfl 6 (by decide) (hts _ tw_fl_D_77) rfl rfl dd_D_conclude_21 (fun h21 => ?_) (fun k9 h21 => ?_)
    · have hm9 := cl_mn hC ht h21
      refine lv_ifnullN (tgt := 48) hx hb dd_D_conclude_24 rfl ?_
      have eM : (cs_cc M F N t v).1 = sp_u (sp_u M (20 + t) 3 v) (20 + cc9) 3 3 := by simp only [cs_cc, h21, cs_c1, h6]
      have eF : (cs_cc M F N t v).2 = F := by simp only [cs_cc, h21, cs_c1, h6]
      exact W.vret hx hb hr (fun tt htt hWW => ⟨⟨(), rfl, trivial, by rw [htt, eM, eF]; exact hP, va_K.moved hWW.alike hK⟩, hS.F htt⟩) hS.2.2 dd_D_conclude_48
    · obtain ⟨gg9, hgg9, hglt, rfl⟩ := cl_ms hC ht h21
      have h1m := h1m _ hgg9
      have hMg := hMB (4 + gg9) 1
      refine lv_ifnull hx hb dd_D_conclude_24 ?_
      refine lv_aload_n hx hb dd_D_conclude_27 rfl (lv_at hl 1 rfl) ?_
      refine cw_getk (k := 20 + t) (C := rn_B) (T := ft_B) (NF := 11) hx hb hts tw_fs_B hown hK hP (hks.2.2 _ ht) (cw_CB _ ad ca _ _ _ _) rfl 6 (by decide) (hts _ tw_fl_D_77) rfl rfl h21 dd_D_conclude_28 ?_
      refine lv_dup hx hb dd_D_conclude_31 rfl ?_
      refine cw_get1 (k := 4 + gg9) (C := rn_G) (T := ft_G) (NF := 2) (v := .int (nI ((sp_u (sp_u M (20 + t) 3 v) (20 + cc9) 3 3) (4 + gg9) 1))) hx hb hts tw_fs_G hown hK hP (hks.1 _ (by omega)) (cw_CG hglt ad ca _ _ _ _) rfl 1 (by decide) (hts _ tw_fl_D_81) rfl rfl dd_D_conclude_32 ?_
      rw [show (sp_u (sp_u M (20 + t) 3 v) (20 + cc9) 3 3) (4 + gg9) 1 = M (4 + gg9) 1 from by rw [sp_u_app, if_neg (by omega), sp_u_app, if_neg (by omega)]]
      refine lv_iconst (v := nI 1) hx hb dd_D_conclude_35 (by decide) ?_
      refine lv_isub hx hb dd_D_conclude_36 ?_
      rw [pk_sub (by omega)]
      refine cw_put1 (k := 4 + gg9) (C := rn_G) (T := ft_G) (NF := 2) (v := .int (nI ((M (4 + gg9) 1) - 1))) (ty := fy_G 1) (M' := (sp_u (sp_u (sp_u M (20 + t) 3 v) (20 + cc9) 3 3) (4 + gg9) 1 ((M (4 + gg9) 1) - 1))) (X' := X) (F' := F) (G' := G) hx hb hts tw_fs_G fy_G fo_G fn_G hown hK hP (cw_D hJ ca (sp_u (sp_u M (20 + t) 3 v) (20 + cc9) 3 3) X F G) hS (hks.1 _ (by omega)) (cw_CG hglt ad ca _ _ _ _) rfl 1 (by decide) (hts _ tw_fl_D_81) rfl rfl (fo_G 1 (by decide)) rfl rfl (Nat.le_of_ble_eq_true rfl) (fun _ hq => sp_u_f _ _ _ hq) (fun _ _ => rfl) (fun _ _ => rfl) (fun _ _ => rfl) (by rw [sp_u_k (sp_u (sp_u M (20 + t) 3 v) (20 + cc9) 3 3) (4 + gg9) 1 ((M (4 + gg9) 1) - 1)]; exact (cw_CG hglt ad ca _ _ _ _)) dd_D_conclude_37 (fun H locs hP hS => ?_)
      refine lv_aload_n hx hb dd_D_conclude_40 rfl (lv_at hl 0 rfl) ?_
      refine lv_aload_n hx hb dd_D_conclude_41 rfl (lv_at hl 1 rfl) ?_
      refine cw_getk (k := 20 + t) (C := rn_B) (T := ft_B) (NF := 11) hx hb hts tw_fs_B hown hK hP (hks.2.2 _ ht) (cw_CB _ ad ca _ _ _ _) rfl 6 (by decide) (hts _ tw_fl_D_77) rfl rfl h21 dd_D_conclude_42 ?_
      refine cw_callwv (k := 0) (C := rn_D) (T := ft_D) (NF := 9) (As := [.ref (ad (4 + gg9))]) (rest := []) ⟨hx, hb, hml, hown, hts⟩ (cc_D_releaseIfEmpty l D ks ad ca hJ (sp_u (sp_u (sp_u M (20 + t) 3 v) (20 + cc9) 3 3) (4 + gg9) 1 ((M (4 + gg9) 1) - 1)) X F G N O B (cl_S_M (cl_S_M (cl_S_M hC (by decide) (Or.inl (by omega))) (by decide) (Or.inl (by omega))) (by decide) (Or.inl (by omega))) hks (cl_B_u (cl_B_u (cl_B_u hMB (by omega)) (by omega)) (by omega)) gg9 hglt) (bg_cwV 1 hts tw_ml_D_123 tw_im_D_releaseIfEmpty tw_se_D_releaseIfEmpty tw_in_D tw_co_D_releaseIfEmpty rfl rfl th_D_releaseIfEmpty ⟨Nat.le_of_ble_eq_true rfl, Nat.le_of_ble_eq_true rfl⟩) hK hP hS (hks.1 0 (by decide)) (cw_C0 ad ca _ _ _ _) rfl rfl hl.1 rfl (Nat.le_of_ble_eq_true rfl) dd_D_conclude_45 ⟨Nat.zero_le _, Nat.zero_le _⟩ (fun H locs hP hS => ?_)
      have eM : (cs_cc M F N t v).1 = (cs_R (sp_u (sp_u (sp_u M (20 + t) 3 v) (20 + cc9) 3 3) (4 + gg9) 1 ((M (4 + gg9) 1) - 1)) F N gg9).1 := by simp only [cs_cc, h21, cs_c1, h6, Nat.add_sub_cancel_left]
      have eF : (cs_cc M F N t v).2 = (cs_R (sp_u (sp_u (sp_u M (20 + t) 3 v) (20 + cc9) 3 3) (4 + gg9) 1 ((M (4 + gg9) 1) - 1)) F N gg9).2 := by simp only [cs_cc, h21, cs_c1, h6, Nat.add_sub_cancel_left]
      exact W.vret hx hb hr (fun tt htt hWW => ⟨⟨(), rfl, trivial, by rw [htt, eM, eF]; exact hP, va_K.moved hWW.alike hK⟩, hS.F htt⟩) hS.2.2 dd_D_conclude_48

