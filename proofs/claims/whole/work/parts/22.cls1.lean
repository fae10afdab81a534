/-! Part 22: the class: isRoot, leadsTo, quality, hasRoom, isClosed, isEmpty, isAhead, isLetIn, goesBefore. By wip/gen/gen_cls1.py. -/
set_option maxHeartbeats 4000000 in
set_option maxRecDepth 100000 in
theorem cc_Q_isRoot (l : Launch) (D : va_G) (ks : List Nat) (ad : Nat → Nat) (ca : Nat → ClassId) (M : sp_N) (X : sp_B) (F : sp_O) (G : sp_Z) (N : sp_N) (O : sp_O) (B : sp_B) (hC : cl_S M X F N O B) (hks : cl_k ks N) (hMB : cl_B M) (j : Nat) (hj : j < N 1 0) : Met l my_Q_isRoot (Cond.code my_Q_isRoot cd_Q_isRoot 1 (some .boolean) :: bg_tbl) ({ frames := 0, cells := 0, slots := 0, locals := 0 }) (va_Pc [.ref (ad (8 + j))] (cw_U D ks ad ca M X F G)) (vp_Si (fun r => r = bd_b (decide (j < 3)))) 0 0 (fun _ => False) := by
  refine Met.ofW (cc := cd_Q_isRoot) (maxL := 1) (ret := (some .boolean)) (by decide) rfl ?_
  intro p e s m args below meth c s₁ BB hml hv
  obtain ⟨rfl, hP, hK⟩ := hv
  have hx := BB.exec
  have hb := BB.bytes
  have hr := BB.returns
  have hts : ∀ w ∈ bg_tbl, w.before ([.ref (ad (8 + j))] : List Value).toArray s = true := fun w h => atoms_spec (ws := (Cond.code my_Q_isRoot cd_Q_isRoot 1 (some .boolean) :: bg_tbl)) BB.pre w (List.mem_cons_of_mem _ h)
  have hown : s.vm.findClass rn_Q = some m.cls := findClass_of_methodNamed BB.named
  have hlocks := BB.notSynchronized
  have h12 := cl_12 hC
  have h160 := cl_160 hC
  have h3q := cl_3 hC
  have hM4 := cl_M4 hC
  have hM5 := cl_M5 hC
  have hl := lv_entry ([.ref (ad (8 + j))]) (n := 1) (Nat.le_of_ble_eq_true rfl)
  rw [lg_entry_eq]
  generalize (lg_sl ([.ref (ad (8 + j))]) ++ List.replicate (1 - (lg_sl ([.ref (ad (8 + j))])).length) Slot.unset).toArray = ls at hl ⊢
  have hl : lv_has ls 1 [(0, .ref (ad (8 + j)))] := hl
  refine lv_aload_n hx hb dd_Q_isRoot_0 rfl (lv_at hl 0 rfl) ?_
  refine cw_getr (k := 8 + j) (C := rn_Q) (T := ft_Q) (NF := 10) hx hb hts tw_fs_Q hown hK hP (hks.2.1 _ hj) (cw_CQ (Nat.lt_of_lt_of_le hj (cl_12 hC)) ad ca _ _ _ _) rfl 2 (by decide) (hts _ tw_fl_Q_13) rfl rfl dd_Q_isRoot_1 (fun h1 => ?_) (fun k9 h1 => ?_)
  · have hj3 := cl_tn hC hj h1
    refine lv_ifnonnullN hx hb dd_Q_isRoot_4 ?_
    refine lv_iconst (v := bd_b true) hx hb dd_Q_isRoot_7 (by decide) ?_
    refine lv_goto (tgt := 12) hx hb dd_Q_isRoot_8 rfl ?_
    exact W.zret (ty := .boolean) hx hb hr (bd_b_nar _) (fun tt htt hWW => ⟨_, rfl, (by rw [decide_eq_true hj3]), htt⟩) (fun _ h => by cases h) dd_Q_isRoot_12
  · obtain ⟨hj3, rfl⟩ := cl_ts hC hj h1
    refine lv_ifnonnull (tgt := 11) hx hb dd_Q_isRoot_4 rfl ?_
    refine lv_iconst (v := bd_b false) hx hb dd_Q_isRoot_11 (by decide) ?_
    exact W.zret (ty := .boolean) hx hb hr (bd_b_nar _) (fun tt htt hWW => ⟨_, rfl, (by rw [decide_eq_false (by omega)]), htt⟩) (fun _ h => by cases h) dd_Q_isRoot_12

set_option maxHeartbeats 4000000 in
set_option maxRecDepth 100000 in
theorem cc_G_isEmpty (l : Launch) (D : va_G) (ks : List Nat) (ad : Nat → Nat) (ca : Nat → ClassId) (M : sp_N) (X : sp_B) (F : sp_O) (G : sp_Z) (N : sp_N) (O : sp_O) (B : sp_B) (hC : cl_S M X F N O B) (hks : cl_k ks N) (hMB : cl_B M) (g : Nat) (hg : g < 4) : Met l my_G_isEmpty (Cond.code my_G_isEmpty cd_G_isEmpty 1 (some .boolean) :: bg_tbl) ({ frames := 0, cells := 0, slots := 0, locals := 0 }) (va_Pc [.ref (ad (4 + g))] (cw_U D ks ad ca M X F G)) (vp_Si (fun r => r = bd_b (decide (M (4 + g) 0 = 0) && decide (M (4 + g) 1 = 0)))) 0 0 (fun _ => False) := by
  refine Met.ofW (cc := cd_G_isEmpty) (maxL := 1) (ret := (some .boolean)) (by decide) rfl ?_
  intro p e s m args below meth c s₁ BB hml hv
  obtain ⟨rfl, hP, hK⟩ := hv
  have hx := BB.exec
  have hb := BB.bytes
  have hr := BB.returns
  have hts : ∀ w ∈ bg_tbl, w.before ([.ref (ad (4 + g))] : List Value).toArray s = true := fun w h => atoms_spec (ws := (Cond.code my_G_isEmpty cd_G_isEmpty 1 (some .boolean) :: bg_tbl)) BB.pre w (List.mem_cons_of_mem _ h)
  have hown : s.vm.findClass rn_G = some m.cls := findClass_of_methodNamed BB.named
  have hlocks := BB.notSynchronized
  have h12 := cl_12 hC
  have h160 := cl_160 hC
  have h3q := cl_3 hC
  have hM4 := cl_M4 hC
  have hM5 := cl_M5 hC
  have hl := lv_entry ([.ref (ad (4 + g))]) (n := 1) (Nat.le_of_ble_eq_true rfl)
  rw [lg_entry_eq]
  generalize (lg_sl ([.ref (ad (4 + g))]) ++ List.replicate (1 - (lg_sl ([.ref (ad (4 + g))])).length) Slot.unset).toArray = ls at hl ⊢
  have hl : lv_has ls 1 [(0, .ref (ad (4 + g)))] := hl
  refine lv_aload_n hx hb dd_G_isEmpty_0 rfl (lv_at hl 0 rfl) ?_
  refine cw_get1 (k := 4 + g) (C := rn_G) (T := ft_G) (NF := 2) (v := .int (nI (M (4 + g) 0))) hx hb hts tw_fs_G hown hK hP (hks.1 _ (by omega)) (cw_CG hg ad ca _ _ _ _) rfl 0 (by decide) (hts _ tw_fl_G_7) rfl rfl dd_G_isEmpty_1 ?_
  refine bq_nne (tgt := 18) hx hb (hMB _ _) dd_G_isEmpty_4 rfl (fun h4 => ?_) (fun h4 => ?_)
  · refine lv_iconst (v := bd_b false) hx hb dd_G_isEmpty_18 (by decide) ?_
    exact W.zret (ty := .boolean) hx hb hr (bd_b_nar _) (fun tt htt hWW => ⟨_, rfl, (by simp [h4]), htt⟩) (fun _ h => by cases h) dd_G_isEmpty_19
  · refine lv_aload_n hx hb dd_G_isEmpty_7 rfl (lv_at hl 0 rfl) ?_
    refine cw_get1 (k := 4 + g) (C := rn_G) (T := ft_G) (NF := 2) (v := .int (nI (M (4 + g) 1))) hx hb hts tw_fs_G hown hK hP (hks.1 _ (by omega)) (cw_CG hg ad ca _ _ _ _) rfl 1 (by decide) (hts _ tw_fl_G_13) rfl rfl dd_G_isEmpty_8 ?_
    refine bq_nne (tgt := 18) hx hb (hMB _ _) dd_G_isEmpty_11 rfl (fun h11 => ?_) (fun h11 => ?_)
    · refine lv_iconst (v := bd_b false) hx hb dd_G_isEmpty_18 (by decide) ?_
      exact W.zret (ty := .boolean) hx hb hr (bd_b_nar _) (fun tt htt hWW => ⟨_, rfl, (by simp [h4, h11]), htt⟩) (fun _ h => by cases h) dd_G_isEmpty_19
    · refine lv_iconst (v := bd_b true) hx hb dd_G_isEmpty_14 (by decide) ?_
      refine lv_goto (tgt := 19) hx hb dd_G_isEmpty_15 rfl ?_
      exact W.zret (ty := .boolean) hx hb hr (bd_b_nar _) (fun tt htt hWW => ⟨_, rfl, (by simp [h4, h11]), htt⟩) (fun _ h => by cases h) dd_G_isEmpty_19

set_option maxHeartbeats 4000000 in
set_option maxRecDepth 100000 in
theorem cc_B_isAhead (l : Launch) (D : va_G) (ks : List Nat) (ad : Nat → Nat) (ca : Nat → ClassId) (M : sp_N) (X : sp_B) (F : sp_O) (G : sp_Z) (N : sp_N) (O : sp_O) (B : sp_B) (hC : cl_S M X F N O B) (hks : cl_k ks N) (hMB : cl_B M) (t : Nat) (ht : t < N 6 0) : Met l my_B_isAhead (Cond.code my_B_isAhead cd_B_isAhead 1 (some .boolean) :: bg_tbl) ({ frames := 0, cells := 0, slots := 0, locals := 0 }) (va_Pc [.ref (ad (20 + t))] (cw_U D ks ad ca M X F G)) (vp_Si (fun r => r = bd_b (decide (M (20 + t) 3 < 3)))) 0 0 (fun _ => False) := by
  refine Met.ofW (cc := cd_B_isAhead) (maxL := 1) (ret := (some .boolean)) (by decide) rfl ?_
  intro p e s m args below meth c s₁ BB hml hv
  obtain ⟨rfl, hP, hK⟩ := hv
  have hx := BB.exec
  have hb := BB.bytes
  have hr := BB.returns
  have hts : ∀ w ∈ bg_tbl, w.before ([.ref (ad (20 + t))] : List Value).toArray s = true := fun w h => atoms_spec (ws := (Cond.code my_B_isAhead cd_B_isAhead 1 (some .boolean) :: bg_tbl)) BB.pre w (List.mem_cons_of_mem _ h)
  have hown : s.vm.findClass rn_B = some m.cls := findClass_of_methodNamed BB.named
  have hlocks := BB.notSynchronized
  have h12 := cl_12 hC
  have h160 := cl_160 hC
  have h3q := cl_3 hC
  have hM4 := cl_M4 hC
  have hM5 := cl_M5 hC
  have hl := lv_entry ([.ref (ad (20 + t))]) (n := 1) (Nat.le_of_ble_eq_true rfl)
  rw [lg_entry_eq]
  generalize (lg_sl ([.ref (ad (20 + t))]) ++ List.replicate (1 - (lg_sl ([.ref (ad (20 + t))])).length) Slot.unset).toArray = ls at hl ⊢
  have hl : lv_has ls 1 [(0, .ref (ad (20 + t)))] := hl
  refine lv_aload_n hx hb dd_B_isAhead_0 rfl (lv_at hl 0 rfl) ?_
  refine cw_get1 (k := 20 + t) (C := rn_B) (T := ft_B) (NF := 11) (v := .int (nI (M (20 + t) 3))) hx hb hts tw_fs_B hown hK hP (hks.2.2 _ ht) (cw_CB _ ad ca _ _ _ _) rfl 3 (by decide) (hts _ tw_fl_B_23) rfl rfl dd_B_isAhead_1 ?_
  refine bq_neq (tgt := 23) hx hb (hMB _ _) dd_B_isAhead_4 rfl (fun h4 => ?_) (fun h4 => ?_)
  · refine lv_iconst (v := bd_b true) hx hb dd_B_isAhead_23 (by decide) ?_
    refine lv_goto (tgt := 28) hx hb dd_B_isAhead_24 rfl ?_
    exact W.zret (ty := .boolean) hx hb hr (bd_b_nar _) (fun tt htt hWW => ⟨_, rfl, (by rw [decide_eq_true (by omega)]), htt⟩) (fun _ h => by cases h) dd_B_isAhead_28
  · refine lv_aload_n hx hb dd_B_isAhead_7 rfl (lv_at hl 0 rfl) ?_
    refine cw_get1 (k := 20 + t) (C := rn_B) (T := ft_B) (NF := 11) (v := .int (nI (M (20 + t) 3))) hx hb hts tw_fs_B hown hK hP (hks.2.2 _ ht) (cw_CB _ ad ca _ _ _ _) rfl 3 (by decide) (hts _ tw_fl_B_23) rfl rfl dd_B_isAhead_8 ?_
    refine lv_iconst (v := nI 1) hx hb dd_B_isAhead_11 (by decide) ?_
    refine bq_eq (tgt := 23) hx hb (hMB _ _) (by decide) dd_B_isAhead_12 rfl (fun h12 => ?_) (fun h12 => ?_)
    · refine lv_iconst (v := bd_b true) hx hb dd_B_isAhead_23 (by decide) ?_
      refine lv_goto (tgt := 28) hx hb dd_B_isAhead_24 rfl ?_
      exact W.zret (ty := .boolean) hx hb hr (bd_b_nar _) (fun tt htt hWW => ⟨_, rfl, (by rw [decide_eq_true (by omega)]), htt⟩) (fun _ h => by cases h) dd_B_isAhead_28
    · refine lv_aload_n hx hb dd_B_isAhead_15 rfl (lv_at hl 0 rfl) ?_
      refine cw_get1 (k := 20 + t) (C := rn_B) (T := ft_B) (NF := 11) (v := .int (nI (M (20 + t) 3))) hx hb hts tw_fs_B hown hK hP (hks.2.2 _ ht) (cw_CB _ ad ca _ _ _ _) rfl 3 (by decide) (hts _ tw_fl_B_23) rfl rfl dd_B_isAhead_16 ?_
      refine lv_iconst (v := nI 2) hx hb dd_B_isAhead_19 (by decide) ?_
      refine bq_ne (tgt := 27) hx hb (hMB _ _) (by decide) dd_B_isAhead_20 rfl (fun h20 => ?_) (fun h20 => ?_)
      · refine lv_iconst (v := bd_b false) hx hb dd_B_isAhead_27 (by decide) ?_
        exact W.zret (ty := .boolean) hx hb hr (bd_b_nar _) (fun tt htt hWW => ⟨_, rfl, (by rw [decide_eq_false (by omega)]), htt⟩) (fun _ h => by cases h) dd_B_isAhead_28
      · refine lv_iconst (v := bd_b true) hx hb dd_B_isAhead_23 (by decide) ?_
        refine lv_goto (tgt := 28) hx hb dd_B_isAhead_24 rfl ?_
        exact W.zret (ty := .boolean) hx hb hr (bd_b_nar _) (fun tt htt hWW => ⟨_, rfl, (by rw [decide_eq_true (by omega)]), htt⟩) (fun _ h => by cases h) dd_B_isAhead_28

set_option maxHeartbeats 4000000 in
set_option maxRecDepth 100000 in
theorem cc_Q_isClosed (l : Launch) (D : va_G) (ks : List Nat) (ad : Nat → Nat) (ca : Nat → ClassId) (M : sp_N) (X : sp_B) (F : sp_O) (G : sp_Z) (N : sp_N) (O : sp_O) (B : sp_B) (hC : cl_S M X F N O B) (hks : cl_k ks N) (hMB : cl_B M) (j : Nat) (hj : j < N 1 0) : Met l my_Q_isClosed (Cond.code my_Q_isClosed cd_Q_isClosed 1 (some .boolean) :: bg_tbl) ({ frames := 0, cells := 0, slots := 0, locals := 0 }) (va_Pc [.ref (ad (8 + j))] (cw_U D ks ad ca M X F G)) (vp_Si (fun r => r = bd_b (cs_cl X F j))) 0 0 (fun _ => False) := by
  refine Met.ofW (cc := cd_Q_isClosed) (maxL := 1) (ret := (some .boolean)) (by decide) rfl ?_
  intro p e s m args below meth c s₁ BB hml hv
  obtain ⟨rfl, hP, hK⟩ := hv
  have hx := BB.exec
  have hb := BB.bytes
  have hr := BB.returns
  have hts : ∀ w ∈ bg_tbl, w.before ([.ref (ad (8 + j))] : List Value).toArray s = true := fun w h => atoms_spec (ws := (Cond.code my_Q_isClosed cd_Q_isClosed 1 (some .boolean) :: bg_tbl)) BB.pre w (List.mem_cons_of_mem _ h)
  have hown : s.vm.findClass rn_Q = some m.cls := findClass_of_methodNamed BB.named
  have hlocks := BB.notSynchronized
  have h12 := cl_12 hC
  have h160 := cl_160 hC
  have h3q := cl_3 hC
  have hM4 := cl_M4 hC
  have hM5 := cl_M5 hC
  have hl := lv_entry ([.ref (ad (8 + j))]) (n := 1) (Nat.le_of_ble_eq_true rfl)
  rw [lg_entry_eq]
  generalize (lg_sl ([.ref (ad (8 + j))]) ++ List.replicate (1 - (lg_sl ([.ref (ad (8 + j))])).length) Slot.unset).toArray = ls at hl ⊢
  have hl : lv_has ls 1 [(0, .ref (ad (8 + j)))] := hl
  refine lv_aload_n hx hb dd_Q_isClosed_0 rfl (lv_at hl 0 rfl) ?_
  refine cw_getr (k := 8 + j) (C := rn_Q) (T := ft_Q) (NF := 10) hx hb hts tw_fs_Q hown hK hP (hks.2.1 _ hj) (cw_CQ (Nat.lt_of_lt_of_le hj (cl_12 hC)) ad ca _ _ _ _) rfl 4 (by decide) (hts _ tw_fl_Q_27) rfl rfl dd_Q_isClosed_1 (fun h1 => ?_) (fun k9 h1 => ?_)
  · skip
    refine lv_ifnullN (tgt := 21) hx hb dd_Q_isClosed_4 rfl ?_
    refine lv_iconst (v := bd_b false) hx hb dd_Q_isClosed_21 (by decide) ?_
    exact W.zret (ty := .boolean) hx hb hr (bd_b_nar _) (fun tt htt hWW => ⟨_, rfl, (by simp [cs_cl, h1]), htt⟩) (fun _ h => by cases h) dd_Q_isClosed_22
  · obtain ⟨tf, htf, rfl⟩ := cl_fs hC hj h1
    refine lv_ifnull hx hb dd_Q_isClosed_4 ?_
    refine lv_aload_n hx hb dd_Q_isClosed_7 rfl (lv_at hl 0 rfl) ?_
    refine cw_getk (k := 8 + j) (C := rn_Q) (T := ft_Q) (NF := 10) hx hb hts tw_fs_Q hown hK hP (hks.2.1 _ hj) (cw_CQ (Nat.lt_of_lt_of_le hj (cl_12 hC)) ad ca _ _ _ _) rfl 4 (by decide) (hts _ tw_fl_Q_27) rfl rfl h1 dd_Q_isClosed_8 ?_
    refine cw_get1 (k := 20 + tf) (C := rn_B) (T := ft_B) (NF := 11) (v := .int (bd_b (X (20 + tf) 2))) hx hb hts tw_fs_B hown hK hP (hks.2.2 _ htf) (cw_CB _ ad ca _ _ _ _) rfl 2 (by decide) (hts _ tw_fl_Q_31) rfl rfl dd_Q_isClosed_11 ?_
    refine bq_zeq (tgt := 21) hx hb dd_Q_isClosed_14 rfl (fun h14 => ?_) (fun h14 => ?_)
    · refine lv_iconst (v := bd_b false) hx hb dd_Q_isClosed_21 (by decide) ?_
      exact W.zret (ty := .boolean) hx hb hr (bd_b_nar _) (fun tt htt hWW => ⟨_, rfl, (by simp [cs_cl, h1, h14]), htt⟩) (fun _ h => by cases h) dd_Q_isClosed_22
    · refine lv_iconst (v := bd_b true) hx hb dd_Q_isClosed_17 (by decide) ?_
      refine lv_goto (tgt := 22) hx hb dd_Q_isClosed_18 rfl ?_
      exact W.zret (ty := .boolean) hx hb hr (bd_b_nar _) (fun tt htt hWW => ⟨_, rfl, (by simp [cs_cl, h1, h14]), htt⟩) (fun _ h => by cases h) dd_Q_isClosed_22

set_option maxHeartbeats 4000000 in
set_option maxRecDepth 100000 in
theorem cc_Q_hasRoom (l : Launch) (D : va_G) (ks : List Nat) (ad : Nat → Nat) (ca : Nat → ClassId) (M : sp_N) (X : sp_B) (F : sp_O) (G : sp_Z) (N : sp_N) (O : sp_O) (B : sp_B) (hC : cl_S M X F N O B) (hks : cl_k ks N) (hMB : cl_B M) (j : Nat) (hj : j < N 1 0) : Met l my_Q_hasRoom (Cond.code my_Q_hasRoom cd_Q_hasRoom 1 (some .boolean) :: bg_tbl) ({ frames := 1, cells := 0, slots := 0, locals := 20 }) (va_Pc [.ref (ad (8 + j))] (cw_U D ks ad ca M X F G)) (vp_Si (fun r => r = bd_b (cs_rm M j))) 0 0 (fun _ => False) := by
  refine Met.ofW (cc := cd_Q_hasRoom) (maxL := 1) (ret := (some .boolean)) (by decide) rfl ?_
  intro p e s m args below meth c s₁ BB hml hv
  obtain ⟨rfl, hP, hK⟩ := hv
  have hx := BB.exec
  have hb := BB.bytes
  have hr := BB.returns
  have hts : ∀ w ∈ bg_tbl, w.before ([.ref (ad (8 + j))] : List Value).toArray s = true := fun w h => atoms_spec (ws := (Cond.code my_Q_hasRoom cd_Q_hasRoom 1 (some .boolean) :: bg_tbl)) BB.pre w (List.mem_cons_of_mem _ h)
  have hown : s.vm.findClass rn_Q = some m.cls := findClass_of_methodNamed BB.named
  have hlocks := BB.notSynchronized
  have h12 := cl_12 hC
  have h160 := cl_160 hC
  have h3q := cl_3 hC
  have hM4 := cl_M4 hC
  have hM5 := cl_M5 hC
  have hl := lv_entry ([.ref (ad (8 + j))]) (n := 1) (Nat.le_of_ble_eq_true rfl)
  rw [lg_entry_eq]
  generalize (lg_sl ([.ref (ad (8 + j))]) ++ List.replicate (1 - (lg_sl ([.ref (ad (8 + j))])).length) Slot.unset).toArray = ls at hl ⊢
  have hl : lv_has ls 1 [(0, .ref (ad (8 + j)))] := hl
  refine lv_aload_n hx hb dd_Q_hasRoom_0 rfl (lv_at hl 0 rfl) ?_
  refine cw_calli (k := 8 + j) (C := rn_Q) (T := ft_Q) (NF := 10) (As := []) (rest := []) (v := bd_b (decide (j < 3))) ⟨hx, hb, hml, hown, hts⟩ (cc_Q_isRoot l D ks ad ca M X F G N O B hC hks hMB j hj) (bg_cwV 0 hts tw_ml_Q_20 tw_im_Q_isRoot tw_se_Q_isRoot tw_in_Q tw_co_Q_isRoot rfl rfl th_Q_isRoot ⟨Nat.le_of_ble_eq_true rfl, Nat.le_of_ble_eq_true rfl⟩) hK hP (hks.2.1 _ hj) (cw_CQ (Nat.lt_of_lt_of_le hj (cl_12 hC)) ad ca _ _ _ _) rfl rfl hl.1 rfl (Nat.le_of_ble_eq_true rfl) dd_Q_hasRoom_1 ⟨Nat.zero_le _, Nat.zero_le _⟩ ?_
  refine bq_zne (tgt := 18) hx hb dd_Q_hasRoom_4 rfl (fun h4 => ?_) (fun h4 => ?_)
  · refine lv_iconst (v := bd_b true) hx hb dd_Q_hasRoom_18 (by decide) ?_
    refine lv_goto (tgt := 23) hx hb dd_Q_hasRoom_19 rfl ?_
    exact W.zret (ty := .boolean) hx hb hr (bd_b_nar _) (fun tt htt hWW => ⟨_, rfl, (by simp only [cs_rm]; simp [h4]), htt⟩) (fun _ h => by cases h) dd_Q_hasRoom_23
  · refine lv_aload_n hx hb dd_Q_hasRoom_7 rfl (lv_at hl 0 rfl) ?_
    refine cw_get1 (k := 8 + j) (C := rn_Q) (T := ft_Q) (NF := 10) (v := .int (nI (M (8 + j) 7))) hx hb hts tw_fs_Q hown hK hP (hks.2.1 _ hj) (cw_CQ (Nat.lt_of_lt_of_le hj (cl_12 hC)) ad ca _ _ _ _) rfl 7 (by decide) (hts _ tw_fl_Q_24) rfl rfl dd_Q_hasRoom_8 ?_
    refine lv_aload_n hx hb dd_Q_hasRoom_11 rfl (lv_at hl 0 rfl) ?_
    refine cw_get1 (k := 8 + j) (C := rn_Q) (T := ft_Q) (NF := 10) (v := .int (nI (M (8 + j) 1))) hx hb hts tw_fs_Q hown hK hP (hks.2.1 _ hj) (cw_CQ (Nat.lt_of_lt_of_le hj (cl_12 hC)) ad ca _ _ _ _) rfl 1 (by decide) (hts _ tw_fl_Q_17) rfl rfl dd_Q_hasRoom_12 ?_
    refine bq_ge (tgt := 22) hx hb (hMB _ _) (hMB _ _) dd_Q_hasRoom_15 rfl (fun h15 => ?_) (fun h15 => ?_)
    · refine lv_iconst (v := bd_b false) hx hb dd_Q_hasRoom_22 (by decide) ?_
      exact W.zret (ty := .boolean) hx hb hr (bd_b_nar _) (fun tt htt hWW => ⟨_, rfl, (by simp only [cs_rm]; simp [h4, h15, Nat.not_lt.mpr h15]), htt⟩) (fun _ h => by cases h) dd_Q_hasRoom_23
    · refine lv_iconst (v := bd_b true) hx hb dd_Q_hasRoom_18 (by decide) ?_
      refine lv_goto (tgt := 23) hx hb dd_Q_hasRoom_19 rfl ?_
      exact W.zret (ty := .boolean) hx hb hr (bd_b_nar _) (fun tt htt hWW => ⟨_, rfl, (by simp only [cs_rm]; simp [h4, h15, Nat.not_le.mpr h15]), htt⟩) (fun _ h => by cases h) dd_Q_hasRoom_23

set_option maxHeartbeats 4000000 in
set_option maxRecDepth 100000 in
theorem cc_Q_leadsTo (l : Launch) (D : va_G) (ks : List Nat) (ad : Nat → Nat) (ca : Nat → ClassId) (M : sp_N) (X : sp_B) (F : sp_O) (G : sp_Z) (N : sp_N) (O : sp_O) (B : sp_B) (hC : cl_S M X F N O B) (hks : cl_k ks N) (hMB : cl_B M) (hJ : cw_J ks ad) (j i : Nat) (hj : j < N 1 0) (hi : i < N 1 0) : Met l my_Q_leadsTo (Cond.code my_Q_leadsTo cd_Q_leadsTo 3 (some .boolean) :: bg_tbl) ({ frames := 0, cells := 0, slots := 0, locals := 0 }) (va_Pc [.ref (ad (8 + j)), .ref (ad (8 + i))] (cw_U D ks ad ca M X F G)) (vp_Si (fun r => r = bd_b (sp_l N j i))) 0 0 (fun _ => False) := by
  refine Met.ofW (cc := cd_Q_leadsTo) (maxL := 3) (ret := (some .boolean)) (by decide) rfl ?_
  intro p e s m args below meth c s₁ BB hml hv
  obtain ⟨rfl, hP, hK⟩ := hv
  have hx := BB.exec
  have hb := BB.bytes
  have hr := BB.returns
  have hts : ∀ w ∈ bg_tbl, w.before ([.ref (ad (8 + j)), .ref (ad (8 + i))] : List Value).toArray s = true := fun w h => atoms_spec (ws := (Cond.code my_Q_leadsTo cd_Q_leadsTo 3 (some .boolean) :: bg_tbl)) BB.pre w (List.mem_cons_of_mem _ h)
  have hown : s.vm.findClass rn_Q = some m.cls := findClass_of_methodNamed BB.named
  have hlocks := BB.notSynchronized
  have h12 := cl_12 hC
  have h160 := cl_160 hC
  have h3q := cl_3 hC
  have hM4 := cl_M4 hC
  have hM5 := cl_M5 hC
  have hl := lv_entry ([.ref (ad (8 + j)), .ref (ad (8 + i))]) (n := 3) (Nat.le_of_ble_eq_true rfl)
  rw [lg_entry_eq]
  generalize (lg_sl ([.ref (ad (8 + j)), .ref (ad (8 + i))]) ++ List.replicate (3 - (lg_sl ([.ref (ad (8 + j)), .ref (ad (8 + i))])).length) Slot.unset).toArray = ls at hl ⊢
  have hl : lv_has ls 3 [(0, .ref (ad (8 + j))), (1, .ref (ad (8 + i)))] := hl
  have lp : ∀ y, y < N 1 0 → ∀  (ls : Array Slot), (sp_l N y i = sp_l N j i) →  lv_has ls 3 [(1, .ref (ad (8 + i))), (2, .ref (ad (8 + y)))] → W p l e (headSpec (Cond.code my_Q_leadsTo cd_Q_leadsTo 3 (some .boolean) :: bg_tbl) ({ frames := 0, cells := 0, slots := 0, locals := 0 })).room s m ([.ref (ad (8 + j)), .ref (ad (8 + i))] : List Value).toArray below meth c s.heap [] 0 0 (MQ below (vp_Si (fun r => r = bd_b (sp_l N j i))) ([.ref (ad (8 + j)), .ref (ad (8 + i))] : List Value).toArray s 0 0 (fun _ => False)) (F0 m 2 ls []) := by
    refine sp_ind (cl_tr hC) (fun y hj3  ls he hl => ?_) (fun y hj3 hy ih  ls he hl => ?_)
    · have hy : y < N 1 0 := by omega
      refine lv_aload_n hx hb dd_Q_leadsTo_2 rfl (lv_at hl 1 rfl) ?_
      refine lv_ifnull hx hb dd_Q_leadsTo_3 ?_
      refine lv_aload_n hx hb dd_Q_leadsTo_6 rfl (lv_at hl 1 rfl) ?_
      refine lv_aload_n hx hb dd_Q_leadsTo_7 rfl (lv_at hl 0 rfl) ?_
      refine cw_acmp_ne (a := 8 + y) (b := 8 + i) (tgt := 13) hx hb hJ (hks.2.1 _ hy) (hks.2.1 _ hi) dd_Q_leadsTo_8 rfl (fun h8 => ?_) (fun h8 => ?_)
      · refine lv_aload_n hx hb dd_Q_leadsTo_13 rfl (lv_at hl 1 rfl) ?_
        refine cw_getn (k := 8 + y) (C := rn_Q) (T := ft_Q) (NF := 10) hx hb hts tw_fs_Q hown hK hP (hks.2.1 _ hy) (cw_CQ (Nat.lt_of_lt_of_le hy (cl_12 hC)) ad ca _ _ _ _) rfl 2 (by decide) (hts _ tw_fl_Q_13) rfl rfl (cl_t0 hC hy hj3) dd_Q_leadsTo_14 ?_
        refine lv_astore_nN hx hb dd_Q_leadsTo_17 rfl hl (by decide) rfl (fun ls hl => ?_)
        have hl : lv_has ls 3 [(2, .null), (1, .ref (ad (8 + i)))] := hl
        refine lv_goto (tgt := 2) hx hb dd_Q_leadsTo_18 rfl ?_
        refine lv_aload_nN hx hb dd_Q_leadsTo_2 rfl (lv_at hl 0 rfl) ?_
        refine lv_ifnullN (tgt := 21) hx hb dd_Q_leadsTo_3 rfl ?_
        refine lv_iconst (v := bd_b false) hx hb dd_Q_leadsTo_21 (by decide) ?_
        exact W.zret (ty := .boolean) hx hb hr (bd_b_nar _) (fun tt htt hWW => ⟨_, rfl, (by rw [← he, sp_l_eq (cl_tr hC) hy, if_neg (by omega), if_pos hj3]), htt⟩) (fun _ h => by cases h) dd_Q_leadsTo_22
      · refine lv_iconst (v := bd_b true) hx hb dd_Q_leadsTo_11 (by decide) ?_
        exact W.zret (ty := .boolean) hx hb hr (bd_b_nar _) (fun tt htt hWW => ⟨_, rfl, (by rw [← he, sp_l_eq (cl_tr hC) hy, if_pos (by omega)]), htt⟩) (fun _ h => by cases h) dd_Q_leadsTo_12
    · have hyl := cl_tl hC hy hj3
      refine lv_aload_n hx hb dd_Q_leadsTo_2 rfl (lv_at hl 1 rfl) ?_
      refine lv_ifnull hx hb dd_Q_leadsTo_3 ?_
      refine lv_aload_n hx hb dd_Q_leadsTo_6 rfl (lv_at hl 1 rfl) ?_
      refine lv_aload_n hx hb dd_Q_leadsTo_7 rfl (lv_at hl 0 rfl) ?_
      refine cw_acmp_ne (a := 8 + y) (b := 8 + i) (tgt := 13) hx hb hJ (hks.2.1 _ hy) (hks.2.1 _ hi) dd_Q_leadsTo_8 rfl (fun h8 => ?_) (fun h8 => ?_)
      · refine lv_aload_n hx hb dd_Q_leadsTo_13 rfl (lv_at hl 1 rfl) ?_
        refine cw_getk (k := 8 + y) (C := rn_Q) (T := ft_Q) (NF := 10) hx hb hts tw_fs_Q hown hK hP (hks.2.1 _ hy) (cw_CQ (Nat.lt_of_lt_of_le hy (cl_12 hC)) ad ca _ _ _ _) rfl 2 (by decide) (hts _ tw_fl_Q_13) rfl rfl (cl_t1 hC hy hj3) dd_Q_leadsTo_14 ?_
        refine lv_astore_n hx hb dd_Q_leadsTo_17 rfl hl (by decide) rfl (fun ls hl => ?_)
        have hl : lv_has ls 3 [(2, .ref (ad (8 + N 2 y))), (1, .ref (ad (8 + i)))] := hl
        refine lv_goto (tgt := 2) hx hb dd_Q_leadsTo_18 rfl ?_
        exact ih ls (by rw [← he, sp_l_eq (cl_tr hC) hy, if_neg (by omega), if_neg (by omega)]) (lv_sub hl [1, 0] rfl)
      · refine lv_iconst (v := bd_b true) hx hb dd_Q_leadsTo_11 (by decide) ?_
        exact W.zret (ty := .boolean) hx hb hr (bd_b_nar _) (fun tt htt hWW => ⟨_, rfl, (by rw [← he, sp_l_eq (cl_tr hC) hy, if_pos (by omega)]), htt⟩) (fun _ h => by cases h) dd_Q_leadsTo_12
  refine lv_aload_n hx hb dd_Q_leadsTo_0 rfl (lv_at hl 0 rfl) ?_
  refine lv_astore_n hx hb dd_Q_leadsTo_1 rfl hl (by decide) rfl (fun ls hl => ?_)
  have hl : lv_has ls 3 [(2, .ref (ad (8 + j))), (0, .ref (ad (8 + j))), (1, .ref (ad (8 + i)))] := hl
  exact lp j hj ls rfl (lv_sub hl [2, 0] rfl)

theorem sp_r_up {N : sp_N} (hT : sp_Tr N) {y : Nat} (hy : y < N 1 0) (h3 : 3 ≤ y) : sp_r N (N 2 y) = sp_r N y := by
  have e0 : sp_l N y 0 = sp_l N (N 2 y) 0 := by rw [sp_l_eq hT hy, if_neg (by omega), if_neg (by omega)]
  have e1 : sp_l N y 1 = sp_l N (N 2 y) 1 := by rw [sp_l_eq hT hy, if_neg (by omega), if_neg (by omega)]
  unfold sp_r
  rw [e0, e1]
theorem sp_r_lo {N : sp_N} (hT : sp_Tr N) {y : Nat} (hy : y < N 1 0) (h3 : y < 3) : sp_r N y = y := by
  unfold sp_r
  rw [sp_l_eq hT hy 0, sp_l_eq hT hy 1]
  rcases (show y = 0 ∨ y = 1 ∨ y = 2 by omega) with rfl | rfl | rfl <;> simp
set_option maxHeartbeats 4000000 in
set_option maxRecDepth 100000 in
theorem cc_Q_quality (l : Launch) (D : va_G) (ks : List Nat) (ad : Nat → Nat) (ca : Nat → ClassId) (M : sp_N) (X : sp_B) (F : sp_O) (G : sp_Z) (N : sp_N) (O : sp_O) (B : sp_B) (hC : cl_S M X F N O B) (hks : cl_k ks N) (hMB : cl_B M) (j : Nat) (hj : j < N 1 0) : Met l my_Q_quality (Cond.code my_Q_quality cd_Q_quality 3 (some .int) :: bg_tbl) ({ frames := 0, cells := 0, slots := 0, locals := 0 }) (va_Pc [.ref (ad (8 + j))] (cw_U D ks ad ca M X F G)) (vp_Si (fun r => r = nI (sp_r N j))) 0 0 (fun _ => False) := by
  refine Met.ofW (cc := cd_Q_quality) (maxL := 3) (ret := (some .int)) (by decide) rfl ?_
  intro p e s m args below meth c s₁ BB hml hv
  obtain ⟨rfl, hP, hK⟩ := hv
  have hx := BB.exec
  have hb := BB.bytes
  have hr := BB.returns
  have hts : ∀ w ∈ bg_tbl, w.before ([.ref (ad (8 + j))] : List Value).toArray s = true := fun w h => atoms_spec (ws := (Cond.code my_Q_quality cd_Q_quality 3 (some .int) :: bg_tbl)) BB.pre w (List.mem_cons_of_mem _ h)
  have hown : s.vm.findClass rn_Q = some m.cls := findClass_of_methodNamed BB.named
  have hlocks := BB.notSynchronized
  have h12 := cl_12 hC
  have h160 := cl_160 hC
  have h3q := cl_3 hC
  have hM4 := cl_M4 hC
  have hM5 := cl_M5 hC
  have hl := lv_entry ([.ref (ad (8 + j))]) (n := 3) (Nat.le_of_ble_eq_true rfl)
  rw [lg_entry_eq]
  generalize (lg_sl ([.ref (ad (8 + j))]) ++ List.replicate (3 - (lg_sl ([.ref (ad (8 + j))])).length) Slot.unset).toArray = ls at hl ⊢
  have hl : lv_has ls 3 [(0, .ref (ad (8 + j)))] := hl
  have lp : ∀ y, y < N 1 0 → ∀ (z9 : Nat) (ls : Array Slot), (sp_r N y = sp_r N j) →  lv_has ls 3 [(1, .ref z9), (2, .ref (ad (8 + y)))] → W p l e (headSpec (Cond.code my_Q_quality cd_Q_quality 3 (some .int) :: bg_tbl) ({ frames := 0, cells := 0, slots := 0, locals := 0 })).room s m ([.ref (ad (8 + j))] : List Value).toArray below meth c s.heap [] 0 0 (MQ below (vp_Si (fun r => r = nI (sp_r N j))) ([.ref (ad (8 + j))] : List Value).toArray s 0 0 (fun _ => False)) (F0 m 4 ls []) := by
    refine sp_ind (cl_tr hC) (fun y hj3 z9 ls he hl => ?_) (fun y hj3 hy ih z9 ls he hl => ?_)
    · have hy : y < N 1 0 := by omega
      refine lv_aload_n hx hb dd_Q_quality_4 rfl (lv_at hl 1 rfl) ?_
      refine lv_ifnull hx hb dd_Q_quality_5 ?_
      refine lv_aload_n hx hb dd_Q_quality_8 rfl (lv_at hl 1 rfl) ?_
      refine lv_astore_n hx hb dd_Q_quality_9 rfl hl (by decide) rfl (fun ls hl => ?_)
      have hl : lv_has ls 3 [(1, .ref (ad (8 + y))), (2, .ref (ad (8 + y)))] := hl
      refine lv_aload_n hx hb dd_Q_quality_10 rfl (lv_at hl 1 rfl) ?_
      refine cw_getn (k := 8 + y) (C := rn_Q) (T := ft_Q) (NF := 10) hx hb hts tw_fs_Q hown hK hP (hks.2.1 _ hy) (cw_CQ (Nat.lt_of_lt_of_le hy (cl_12 hC)) ad ca _ _ _ _) rfl 2 (by decide) (hts _ tw_fl_Q_13) rfl rfl (cl_t0 hC hy hj3) dd_Q_quality_11 ?_
      refine lv_astore_nN hx hb dd_Q_quality_14 rfl hl (by decide) rfl (fun ls hl => ?_)
      have hl : lv_has ls 3 [(2, .null), (1, .ref (ad (8 + y)))] := hl
      refine lv_goto (tgt := 4) hx hb dd_Q_quality_15 rfl ?_
      refine lv_aload_nN hx hb dd_Q_quality_4 rfl (lv_at hl 0 rfl) ?_
      refine lv_ifnullN (tgt := 18) hx hb dd_Q_quality_5 rfl ?_
      refine lv_aload_n hx hb dd_Q_quality_18 rfl (lv_at hl 1 rfl) ?_
      refine cw_get1 (k := 8 + y) (C := rn_Q) (T := ft_Q) (NF := 10) (v := .int (nI (M (8 + y) 0))) hx hb hts tw_fs_Q hown hK hP (hks.2.1 _ hy) (cw_CQ (Nat.lt_of_lt_of_le hy (cl_12 hC)) ad ca _ _ _ _) rfl 0 (by decide) (hts _ tw_fl_Q_7) rfl rfl dd_Q_quality_19 ?_
      exact W.iret hx hb hr (fun tt htt hWW => ⟨_, rfl, (by rw [cl_qn hC hy, ← he, sp_r_lo (cl_tr hC) hy hj3]), htt⟩) (fun _ h => by cases h) dd_Q_quality_22
    · have hyl := cl_tl hC hy hj3
      refine lv_aload_n hx hb dd_Q_quality_4 rfl (lv_at hl 1 rfl) ?_
      refine lv_ifnull hx hb dd_Q_quality_5 ?_
      refine lv_aload_n hx hb dd_Q_quality_8 rfl (lv_at hl 1 rfl) ?_
      refine lv_astore_n hx hb dd_Q_quality_9 rfl hl (by decide) rfl (fun ls hl => ?_)
      have hl : lv_has ls 3 [(1, .ref (ad (8 + y))), (2, .ref (ad (8 + y)))] := hl
      refine lv_aload_n hx hb dd_Q_quality_10 rfl (lv_at hl 1 rfl) ?_
      refine cw_getk (k := 8 + y) (C := rn_Q) (T := ft_Q) (NF := 10) hx hb hts tw_fs_Q hown hK hP (hks.2.1 _ hy) (cw_CQ (Nat.lt_of_lt_of_le hy (cl_12 hC)) ad ca _ _ _ _) rfl 2 (by decide) (hts _ tw_fl_Q_13) rfl rfl (cl_t1 hC hy hj3) dd_Q_quality_11 ?_
      refine lv_astore_n hx hb dd_Q_quality_14 rfl hl (by decide) rfl (fun ls hl => ?_)
      have hl : lv_has ls 3 [(2, .ref (ad (8 + N 2 y))), (1, .ref (ad (8 + y)))] := hl
      refine lv_goto (tgt := 4) hx hb dd_Q_quality_15 rfl ?_
      exact ih _ ls (by rw [← he, sp_r_up (cl_tr hC) hy hj3]) (lv_sub hl [1, 0] rfl)
  refine lv_aload_n hx hb dd_Q_quality_0 rfl (lv_at hl 0 rfl) ?_
  refine lv_astore_n hx hb dd_Q_quality_1 rfl hl (by decide) rfl (fun ls hl => ?_)
  have hl : lv_has ls 3 [(1, .ref (ad (8 + j))), (0, .ref (ad (8 + j)))] := hl
  refine lv_aload_n hx hb dd_Q_quality_2 rfl (lv_at hl 1 rfl) ?_
  refine lv_astore_n hx hb dd_Q_quality_3 rfl hl (by decide) rfl (fun ls hl => ?_)
  have hl : lv_has ls 3 [(2, .ref (ad (8 + j))), (1, .ref (ad (8 + j))), (0, .ref (ad (8 + j)))] := hl
  exact lp j hj _ ls rfl (lv_sub hl [1, 0] rfl)

set_option maxHeartbeats 4000000 in
set_option maxRecDepth 100000 in
theorem cc_B_goesBefore (l : Launch) (D : va_G) (ks : List Nat) (ad : Nat → Nat) (ca : Nat → ClassId) (M : sp_N) (X : sp_B) (F : sp_O) (G : sp_Z) (N : sp_N) (O : sp_O) (B : sp_B) (hC : cl_S M X F N O B) (hks : cl_k ks N) (hMB : cl_B M) (t u : Nat) (ht : t < N 6 0) (hu : u < N 6 0) : Met l my_B_goesBefore (Cond.code my_B_goesBefore cd_B_goesBefore 4 (some .boolean) :: bg_tbl) ({ frames := 1, cells := 0, slots := 0, locals := 22 }) (va_Pc [.ref (ad (20 + t)), .ref (ad (20 + u))] (cw_U D ks ad ca M X F G)) (vp_Si (fun r => r = bd_b (cs_bf M N t u))) 0 0 (fun _ => False) := by
  refine Met.ofW (cc := cd_B_goesBefore) (maxL := 4) (ret := (some .boolean)) (by decide) rfl ?_
  intro p e s m args below meth c s₁ BB hml hv
  obtain ⟨rfl, hP, hK⟩ := hv
  have hx := BB.exec
  have hb := BB.bytes
  have hr := BB.returns
  have hts : ∀ w ∈ bg_tbl, w.before ([.ref (ad (20 + t)), .ref (ad (20 + u))] : List Value).toArray s = true := fun w h => atoms_spec (ws := (Cond.code my_B_goesBefore cd_B_goesBefore 4 (some .boolean) :: bg_tbl)) BB.pre w (List.mem_cons_of_mem _ h)
  have hown : s.vm.findClass rn_B = some m.cls := findClass_of_methodNamed BB.named
  have hlocks := BB.notSynchronized
  have h12 := cl_12 hC
  have h160 := cl_160 hC
  have h3q := cl_3 hC
  have hM4 := cl_M4 hC
  have hM5 := cl_M5 hC
  have hl := lv_entry ([.ref (ad (20 + t)), .ref (ad (20 + u))]) (n := 4) (Nat.le_of_ble_eq_true rfl)
  rw [lg_entry_eq]
  generalize (lg_sl ([.ref (ad (20 + t)), .ref (ad (20 + u))]) ++ List.replicate (4 - (lg_sl ([.ref (ad (20 + t)), .ref (ad (20 + u))])).length) Slot.unset).toArray = ls at hl ⊢
  have hl : lv_has ls 4 [(0, .ref (ad (20 + t))), (1, .ref (ad (20 + u)))] := hl
  refine lv_aload_n hx hb dd_B_goesBefore_0 rfl (lv_at hl 0 rfl) ?_
  refine cw_getk (k := 20 + t) (C := rn_B) (T := ft_B) (NF := 11) hx hb hts tw_fs_B hown hK hP (hks.2.2 _ ht) (cw_CB _ ad ca _ _ _ _) rfl 1 (by decide) (hts _ tw_fl_B_15) rfl rfl (cl_h hC ht) dd_B_goesBefore_1 ?_
  refine cw_calli (k := 8 + N 7 t) (C := rn_Q) (T := ft_Q) (NF := 10) (As := []) (rest := []) (v := nI (sp_r N (N 7 t))) ⟨hx, hb, hml, hown, hts⟩ (cc_Q_quality l D ks ad ca M X F G N O B hC hks hMB (N 7 t) (cl_hl hC ht)) (bg_cwV 0 hts tw_ml_B_47 tw_im_Q_quality tw_se_Q_quality tw_in_Q tw_co_Q_quality rfl rfl th_Q_quality ⟨Nat.le_of_ble_eq_true rfl, Nat.le_of_ble_eq_true rfl⟩) hK hP (hks.2.1 _ (cl_hl hC ht)) (cw_CQ (Nat.lt_of_lt_of_le (cl_hl hC ht) (cl_12 hC)) ad ca _ _ _ _) rfl rfl hl.1 rfl (Nat.le_of_ble_eq_true rfl) dd_B_goesBefore_4 ⟨Nat.zero_le _, Nat.zero_le _⟩ ?_
  refine lv_istore_n hx hb dd_B_goesBefore_7 rfl hl (by decide) rfl (fun ls hl => ?_)
  have hl : lv_has ls 4 [(2, .int (nI (sp_r N (N 7 t)))), (0, .ref (ad (20 + t))), (1, .ref (ad (20 + u)))] := hl
  refine lv_aload_n hx hb dd_B_goesBefore_8 rfl (lv_at hl 2 rfl) ?_
  refine cw_getk (k := 20 + u) (C := rn_B) (T := ft_B) (NF := 11) hx hb hts tw_fs_B hown hK hP (hks.2.2 _ hu) (cw_CB _ ad ca _ _ _ _) rfl 1 (by decide) (hts _ tw_fl_B_15) rfl rfl (cl_h hC hu) dd_B_goesBefore_9 ?_
  refine cw_calli (k := 8 + N 7 u) (C := rn_Q) (T := ft_Q) (NF := 10) (As := []) (rest := []) (v := nI (sp_r N (N 7 u))) ⟨hx, hb, hml, hown, hts⟩ (cc_Q_quality l D ks ad ca M X F G N O B hC hks hMB (N 7 u) (cl_hl hC hu)) (bg_cwV 0 hts tw_ml_B_47 tw_im_Q_quality tw_se_Q_quality tw_in_Q tw_co_Q_quality rfl rfl th_Q_quality ⟨Nat.le_of_ble_eq_true rfl, Nat.le_of_ble_eq_true rfl⟩) hK hP (hks.2.1 _ (cl_hl hC hu)) (cw_CQ (Nat.lt_of_lt_of_le (cl_hl hC hu) (cl_12 hC)) ad ca _ _ _ _) rfl rfl hl.1 rfl (Nat.le_of_ble_eq_true rfl) dd_B_goesBefore_12 ⟨Nat.zero_le _, Nat.zero_le _⟩ ?_
  refine lv_istore_n hx hb dd_B_goesBefore_15 rfl hl (by decide) rfl (fun ls hl => ?_)
  have hl : lv_has ls 4 [(3, .int (nI (sp_r N (N 7 u)))), (2, .int (nI (sp_r N (N 7 t)))), (0, .ref (ad (20 + t))), (1, .ref (ad (20 + u)))] := hl
  refine lv_iload_n hx hb dd_B_goesBefore_16 rfl (lv_at hl 1 rfl) ?_
  refine lv_iload_n hx hb dd_B_goesBefore_17 rfl (lv_at hl 0 rfl) ?_
  refine bq_gt (tgt := 37) hx hb (Nat.lt_trans (sp_r_lt _ _) (by decide)) (Nat.lt_trans (sp_r_lt _ _) (by decide)) dd_B_goesBefore_18 rfl (fun h18 => ?_) (fun h18 => ?_)
  · refine lv_iconst (v := bd_b true) hx hb dd_B_goesBefore_37 (by decide) ?_
    refine lv_goto (tgt := 42) hx hb dd_B_goesBefore_38 rfl ?_
    exact W.zret (ty := .boolean) hx hb hr (bd_b_nar _) (fun tt htt hWW => ⟨_, rfl, (by simp [cs_bf, h18, Nat.not_le.mpr h18]), htt⟩) (fun _ h => by cases h) dd_B_goesBefore_42
  · refine lv_iload_n hx hb dd_B_goesBefore_21 rfl (lv_at hl 1 rfl) ?_
    refine lv_iload_n hx hb dd_B_goesBefore_22 rfl (lv_at hl 0 rfl) ?_
    refine bq_ne (tgt := 41) hx hb (Nat.lt_trans (sp_r_lt _ _) (by decide)) (Nat.lt_trans (sp_r_lt _ _) (by decide)) dd_B_goesBefore_23 rfl (fun h23 => ?_) (fun h23 => ?_)
    · refine lv_iconst (v := bd_b false) hx hb dd_B_goesBefore_41 (by decide) ?_
      exact W.zret (ty := .boolean) hx hb hr (bd_b_nar _) (fun tt htt hWW => ⟨_, rfl, (by simp [cs_bf, h18, Nat.not_lt.mpr h18, h23]), htt⟩) (fun _ h => by cases h) dd_B_goesBefore_42
    · refine lv_aload_n hx hb dd_B_goesBefore_26 rfl (lv_at hl 2 rfl) ?_
      refine cw_get1 (k := 20 + t) (C := rn_B) (T := ft_B) (NF := 11) (v := .int (nI (M (20 + t) 9))) hx hb hts tw_fs_B hown hK hP (hks.2.2 _ ht) (cw_CB _ ad ca _ _ _ _) rfl 9 (by decide) (hts _ tw_fl_B_51) rfl rfl dd_B_goesBefore_27 ?_
      refine lv_aload_n hx hb dd_B_goesBefore_30 rfl (lv_at hl 3 rfl) ?_
      refine cw_get1 (k := 20 + u) (C := rn_B) (T := ft_B) (NF := 11) (v := .int (nI (M (20 + u) 9))) hx hb hts tw_fs_B hown hK hP (hks.2.2 _ hu) (cw_CB _ ad ca _ _ _ _) rfl 9 (by decide) (hts _ tw_fl_B_51) rfl rfl dd_B_goesBefore_31 ?_
      refine bq_ge (tgt := 41) hx hb (hMB _ _) (hMB _ _) dd_B_goesBefore_34 rfl (fun h34 => ?_) (fun h34 => ?_)
      · refine lv_iconst (v := bd_b false) hx hb dd_B_goesBefore_41 (by decide) ?_
        exact W.zret (ty := .boolean) hx hb hr (bd_b_nar _) (fun tt htt hWW => ⟨_, rfl, (by simp [cs_bf, h18, Nat.not_lt.mpr h18, h23, h34, Nat.not_lt.mpr h34]), htt⟩) (fun _ h => by cases h) dd_B_goesBefore_42
      · refine lv_iconst (v := bd_b true) hx hb dd_B_goesBefore_37 (by decide) ?_
        refine lv_goto (tgt := 42) hx hb dd_B_goesBefore_38 rfl ?_
        exact W.zret (ty := .boolean) hx hb hr (bd_b_nar _) (fun tt htt hWW => ⟨_, rfl, (by simp [cs_bf, h18, Nat.not_lt.mpr h18, h23, h34, Nat.not_le.mpr h34]), htt⟩) (fun _ h => by cases h) dd_B_goesBefore_42

set_option maxHeartbeats 4000000 in
set_option maxRecDepth 100000 in
theorem cc_B_isLetIn (l : Launch) (D : va_G) (ks : List Nat) (ad : Nat → Nat) (ca : Nat → ClassId) (M : sp_N) (X : sp_B) (F : sp_O) (G : sp_Z) (N : sp_N) (O : sp_O) (B : sp_B) (hC : cl_S M X F N O B) (hks : cl_k ks N) (hMB : cl_B M) (hJ : cw_J ks ad) (t : Nat) (ht : t < N 6 0) : Met l my_B_isLetIn (Cond.code my_B_isLetIn cd_B_isLetIn 2 (some .boolean) :: bg_tbl) ({ frames := 2, cells := 0, slots := 0, locals := 40 }) (va_Pc [.ref (ad (20 + t))] (cw_U D ks ad ca M X F G)) (vp_Si (fun r => r = bd_b (cs_in M X F N t))) 0 0 (fun _ => False) := by
  refine Met.ofW (cc := cd_B_isLetIn) (maxL := 2) (ret := (some .boolean)) (by decide) rfl ?_
  intro p e s m args below meth c s₁ BB hml hv
  obtain ⟨rfl, hP, hK⟩ := hv
  have hx := BB.exec
  have hb := BB.bytes
  have hr := BB.returns
  have hts : ∀ w ∈ bg_tbl, w.before ([.ref (ad (20 + t))] : List Value).toArray s = true := fun w h => atoms_spec (ws := (Cond.code my_B_isLetIn cd_B_isLetIn 2 (some .boolean) :: bg_tbl)) BB.pre w (List.mem_cons_of_mem _ h)
  have hown : s.vm.findClass rn_B = some m.cls := findClass_of_methodNamed BB.named
  have hlocks := BB.notSynchronized
  have h12 := cl_12 hC
  have h160 := cl_160 hC
  have h3q := cl_3 hC
  have hM4 := cl_M4 hC
  have hM5 := cl_M5 hC
  have hl := lv_entry ([.ref (ad (20 + t))]) (n := 2) (Nat.le_of_ble_eq_true rfl)
  rw [lg_entry_eq]
  generalize (lg_sl ([.ref (ad (20 + t))]) ++ List.replicate (2 - (lg_sl ([.ref (ad (20 + t))])).length) Slot.unset).toArray = ls at hl ⊢
  have hl : lv_has ls 2 [(0, .ref (ad (20 + t)))] := hl
  have lp : ∀ y, y < N 1 0 → ∀  (ls : Array Slot), ((!(sp_a (fun x => sp_l N y x && cs_no M X F (N 7 t) x) (N 1 0))) = cs_in M X F N t) →  lv_has ls 2 [(0, .ref (ad (20 + t))), (1, .ref (ad (8 + y)))] → W p l e (headSpec (Cond.code my_B_isLetIn cd_B_isLetIn 2 (some .boolean) :: bg_tbl) ({ frames := 2, cells := 0, slots := 0, locals := 40 })).room s m ([.ref (ad (20 + t))] : List Value).toArray below meth c s.heap [] 0 0 (MQ below (vp_Si (fun r => r = bd_b (cs_in M X F N t))) ([.ref (ad (20 + t))] : List Value).toArray s 0 0 (fun _ => False)) (F0 m 24 ls []) := by
    refine sp_ind (cl_tr hC) (fun y hj3  ls he hl => ?_) (fun y hj3 hy ih  ls he hl => ?_)
    · have hy : y < N 1 0 := by omega
      refine lv_aload_n hx hb dd_B_isLetIn_24 rfl (lv_at hl 1 rfl) ?_
      refine lv_ifnull hx hb dd_B_isLetIn_25 ?_
      refine lv_aload_n hx hb dd_B_isLetIn_28 rfl (lv_at hl 1 rfl) ?_
      refine cw_get1 (k := 8 + y) (C := rn_Q) (T := ft_Q) (NF := 10) (v := .int (nI (M (8 + y) 3))) hx hb hts tw_fs_Q hown hK hP (hks.2.1 _ hy) (cw_CQ (Nat.lt_of_lt_of_le hy (cl_12 hC)) ad ca _ _ _ _) rfl 3 (by decide) (hts _ tw_fl_B_31) rfl rfl dd_B_isLetIn_29 ?_
      refine bq_ngt (tgt := 49) hx hb (hMB _ _) dd_B_isLetIn_32 rfl (fun h32 => ?_) (fun h32 => ?_)
      · refine lv_iconst (v := bd_b false) hx hb dd_B_isLetIn_49 (by decide) ?_
        exact W.zret (ty := .boolean) hx hb hr (bd_b_nar _) (fun tt htt hWW => ⟨_, rfl, (by rw [← he, sp_any (cl_tr hC) _ hy, show cs_no M X F (N 7 t) y = true by simp [cs_no, hj3, h32, Nat.not_le.mpr h32]]; rfl), htt⟩) (fun _ h => by cases h) dd_B_isLetIn_50
      · refine lv_aload_n hx hb dd_B_isLetIn_35 rfl (lv_at hl 1 rfl) ?_
        refine cw_calli (k := 8 + y) (C := rn_Q) (T := ft_Q) (NF := 10) (As := []) (rest := []) (v := bd_b (cs_rm M y)) ⟨hx, hb, hml, hown, hts⟩ (cc_Q_hasRoom l D ks ad ca M X F G N O B hC hks hMB y hy) (bg_cwV 0 hts tw_ml_B_34 tw_im_Q_hasRoom tw_se_Q_hasRoom tw_in_Q tw_co_Q_hasRoom rfl rfl th_Q_hasRoom ⟨Nat.le_of_ble_eq_true rfl, Nat.le_of_ble_eq_true rfl⟩) hK hP (hks.2.1 _ hy) (cw_CQ (Nat.lt_of_lt_of_le hy (cl_12 hC)) ad ca _ _ _ _) rfl rfl hl.1 rfl (Nat.le_of_ble_eq_true rfl) dd_B_isLetIn_36 ⟨Nat.zero_le _, Nat.zero_le _⟩ ?_
        refine bq_zeq (tgt := 49) hx hb dd_B_isLetIn_39 rfl (fun h39 => ?_) (fun h39 => ?_)
        · refine lv_iconst (v := bd_b false) hx hb dd_B_isLetIn_49 (by decide) ?_
          exact W.zret (ty := .boolean) hx hb hr (bd_b_nar _) (fun tt htt hWW => ⟨_, rfl, (by rw [← he, sp_any (cl_tr hC) _ hy, show cs_no M X F (N 7 t) y = true by simp [cs_no, hj3, h32, h39]]; rfl), htt⟩) (fun _ h => by cases h) dd_B_isLetIn_50
        · refine lv_aload_n hx hb dd_B_isLetIn_42 rfl (lv_at hl 1 rfl) ?_
          refine cw_get1 (k := 8 + y) (C := rn_Q) (T := ft_Q) (NF := 10) (v := .int (bd_b (X (8 + y) 9))) hx hb hts tw_fs_Q hown hK hP (hks.2.1 _ hy) (cw_CQ (Nat.lt_of_lt_of_le hy (cl_12 hC)) ad ca _ _ _ _) rfl 9 (by decide) (hts _ tw_fl_B_38) rfl rfl dd_B_isLetIn_43 ?_
          refine bq_zeq (tgt := 51) hx hb dd_B_isLetIn_46 rfl (fun h46 => ?_) (fun h46 => ?_)
          · refine lv_aload_n hx hb dd_B_isLetIn_51 rfl (lv_at hl 1 rfl) ?_
            refine lv_aload_n hx hb dd_B_isLetIn_52 rfl (lv_at hl 0 rfl) ?_
            refine cw_getk (k := 20 + t) (C := rn_B) (T := ft_B) (NF := 11) hx hb hts tw_fs_B hown hK hP (hks.2.2 _ ht) (cw_CB _ ad ca _ _ _ _) rfl 1 (by decide) (hts _ tw_fl_B_15) rfl rfl (cl_h hC ht) dd_B_isLetIn_53 ?_
            refine cw_acmp_eq (a := 8 + y) (b := 8 + N 7 t) (tgt := 68) hx hb hJ (hks.2.1 _ hy) (hks.2.1 _ (cl_hl hC ht)) dd_B_isLetIn_56 rfl (fun h56 => ?_) (fun h56 => ?_)
            · have h56 : y = N 7 t := by omega
              refine lv_aload_n hx hb dd_B_isLetIn_68 rfl (lv_at hl 1 rfl) ?_
              refine cw_getn (k := 8 + y) (C := rn_Q) (T := ft_Q) (NF := 10) hx hb hts tw_fs_Q hown hK hP (hks.2.1 _ hy) (cw_CQ (Nat.lt_of_lt_of_le hy (cl_12 hC)) ad ca _ _ _ _) rfl 2 (by decide) (hts _ tw_fl_B_44) rfl rfl (cl_t0 hC hy hj3) dd_B_isLetIn_69 ?_
              refine lv_astore_nN hx hb dd_B_isLetIn_72 rfl hl (by decide) rfl (fun ls hl => ?_)
              have hl : lv_has ls 2 [(1, .null), (0, .ref (ad (20 + t)))] := hl
              refine lv_goto (tgt := 24) hx hb dd_B_isLetIn_73 rfl ?_
              refine lv_aload_nN hx hb dd_B_isLetIn_24 rfl (lv_at hl 0 rfl) ?_
              refine lv_ifnullN (tgt := 76) hx hb dd_B_isLetIn_25 rfl ?_
              refine lv_iconst (v := bd_b true) hx hb dd_B_isLetIn_76 (by decide) ?_
              exact W.zret (ty := .boolean) hx hb hr (bd_b_nar _) (fun tt htt hWW => ⟨_, rfl, (by rw [← he, sp_any (cl_tr hC) _ hy, show cs_no M X F (N 7 t) y = false by simp [cs_no, h32, h39, h46, decide_eq_true h56], decide_eq_false (by omega)]; rfl), htt⟩) (fun _ h => by cases h) dd_B_isLetIn_77
            · have h56 : y ≠ N 7 t := by omega
              refine lv_aload_n hx hb dd_B_isLetIn_59 rfl (lv_at hl 1 rfl) ?_
              refine cw_calli (k := 8 + y) (C := rn_Q) (T := ft_Q) (NF := 10) (As := []) (rest := []) (v := bd_b (cs_cl X F y)) ⟨hx, hb, hml, hown, hts⟩ (cc_Q_isClosed l D ks ad ca M X F G N O B hC hks hMB y hy) (bg_cwV 0 hts tw_ml_B_41 tw_im_Q_isClosed tw_se_Q_isClosed tw_in_Q tw_co_Q_isClosed rfl rfl th_Q_isClosed ⟨Nat.le_of_ble_eq_true rfl, Nat.le_of_ble_eq_true rfl⟩) hK hP (hks.2.1 _ hy) (cw_CQ (Nat.lt_of_lt_of_le hy (cl_12 hC)) ad ca _ _ _ _) rfl rfl hl.1 rfl (Nat.le_of_ble_eq_true rfl) dd_B_isLetIn_60 ⟨Nat.zero_le _, Nat.zero_le _⟩ ?_
              refine bq_zeq (tgt := 68) hx hb dd_B_isLetIn_63 rfl (fun h63 => ?_) (fun h63 => ?_)
              · refine lv_aload_n hx hb dd_B_isLetIn_68 rfl (lv_at hl 1 rfl) ?_
                refine cw_getn (k := 8 + y) (C := rn_Q) (T := ft_Q) (NF := 10) hx hb hts tw_fs_Q hown hK hP (hks.2.1 _ hy) (cw_CQ (Nat.lt_of_lt_of_le hy (cl_12 hC)) ad ca _ _ _ _) rfl 2 (by decide) (hts _ tw_fl_B_44) rfl rfl (cl_t0 hC hy hj3) dd_B_isLetIn_69 ?_
                refine lv_astore_nN hx hb dd_B_isLetIn_72 rfl hl (by decide) rfl (fun ls hl => ?_)
                have hl : lv_has ls 2 [(1, .null), (0, .ref (ad (20 + t)))] := hl
                refine lv_goto (tgt := 24) hx hb dd_B_isLetIn_73 rfl ?_
                refine lv_aload_nN hx hb dd_B_isLetIn_24 rfl (lv_at hl 0 rfl) ?_
                refine lv_ifnullN (tgt := 76) hx hb dd_B_isLetIn_25 rfl ?_
                refine lv_iconst (v := bd_b true) hx hb dd_B_isLetIn_76 (by decide) ?_
                exact W.zret (ty := .boolean) hx hb hr (bd_b_nar _) (fun tt htt hWW => ⟨_, rfl, (by rw [← he, sp_any (cl_tr hC) _ hy, show cs_no M X F (N 7 t) y = false by simp [cs_no, h32, h39, h46, decide_eq_false h56, h63], decide_eq_false (by omega)]; rfl), htt⟩) (fun _ h => by cases h) dd_B_isLetIn_77
              · refine lv_iconst (v := bd_b false) hx hb dd_B_isLetIn_66 (by decide) ?_
                exact W.zret (ty := .boolean) hx hb hr (bd_b_nar _) (fun tt htt hWW => ⟨_, rfl, (by rw [← he, sp_any (cl_tr hC) _ hy, show cs_no M X F (N 7 t) y = true by simp [cs_no, h32, h39, h46, decide_eq_false h56, h63]]; rfl), htt⟩) (fun _ h => by cases h) dd_B_isLetIn_67
          · refine lv_iconst (v := bd_b false) hx hb dd_B_isLetIn_49 (by decide) ?_
            exact W.zret (ty := .boolean) hx hb hr (bd_b_nar _) (fun tt htt hWW => ⟨_, rfl, (by rw [← he, sp_any (cl_tr hC) _ hy, show cs_no M X F (N 7 t) y = true by simp [cs_no, hj3, h32, h39, h46]]; rfl), htt⟩) (fun _ h => by cases h) dd_B_isLetIn_50
    · have hyl := cl_tl hC hy hj3
      refine lv_aload_n hx hb dd_B_isLetIn_24 rfl (lv_at hl 1 rfl) ?_
      refine lv_ifnull hx hb dd_B_isLetIn_25 ?_
      refine lv_aload_n hx hb dd_B_isLetIn_28 rfl (lv_at hl 1 rfl) ?_
      refine cw_get1 (k := 8 + y) (C := rn_Q) (T := ft_Q) (NF := 10) (v := .int (nI (M (8 + y) 3))) hx hb hts tw_fs_Q hown hK hP (hks.2.1 _ hy) (cw_CQ (Nat.lt_of_lt_of_le hy (cl_12 hC)) ad ca _ _ _ _) rfl 3 (by decide) (hts _ tw_fl_B_31) rfl rfl dd_B_isLetIn_29 ?_
      refine bq_ngt (tgt := 49) hx hb (hMB _ _) dd_B_isLetIn_32 rfl (fun h32 => ?_) (fun h32 => ?_)
      · refine lv_iconst (v := bd_b false) hx hb dd_B_isLetIn_49 (by decide) ?_
        exact W.zret (ty := .boolean) hx hb hr (bd_b_nar _) (fun tt htt hWW => ⟨_, rfl, (by rw [← he, sp_any (cl_tr hC) _ hy, show cs_no M X F (N 7 t) y = true by simp [cs_no, hj3, h32, Nat.not_le.mpr h32]]; rfl), htt⟩) (fun _ h => by cases h) dd_B_isLetIn_50
      · refine lv_aload_n hx hb dd_B_isLetIn_35 rfl (lv_at hl 1 rfl) ?_
        refine cw_calli (k := 8 + y) (C := rn_Q) (T := ft_Q) (NF := 10) (As := []) (rest := []) (v := bd_b (cs_rm M y)) ⟨hx, hb, hml, hown, hts⟩ (cc_Q_hasRoom l D ks ad ca M X F G N O B hC hks hMB y hy) (bg_cwV 0 hts tw_ml_B_34 tw_im_Q_hasRoom tw_se_Q_hasRoom tw_in_Q tw_co_Q_hasRoom rfl rfl th_Q_hasRoom ⟨Nat.le_of_ble_eq_true rfl, Nat.le_of_ble_eq_true rfl⟩) hK hP (hks.2.1 _ hy) (cw_CQ (Nat.lt_of_lt_of_le hy (cl_12 hC)) ad ca _ _ _ _) rfl rfl hl.1 rfl (Nat.le_of_ble_eq_true rfl) dd_B_isLetIn_36 ⟨Nat.zero_le _, Nat.zero_le _⟩ ?_
        refine bq_zeq (tgt := 49) hx hb dd_B_isLetIn_39 rfl (fun h39 => ?_) (fun h39 => ?_)
        · refine lv_iconst (v := bd_b false) hx hb dd_B_isLetIn_49 (by decide) ?_
          exact W.zret (ty := .boolean) hx hb hr (bd_b_nar _) (fun tt htt hWW => ⟨_, rfl, (by rw [← he, sp_any (cl_tr hC) _ hy, show cs_no M X F (N 7 t) y = true by simp [cs_no, hj3, h32, h39]]; rfl), htt⟩) (fun _ h => by cases h) dd_B_isLetIn_50
        · refine lv_aload_n hx hb dd_B_isLetIn_42 rfl (lv_at hl 1 rfl) ?_
          refine cw_get1 (k := 8 + y) (C := rn_Q) (T := ft_Q) (NF := 10) (v := .int (bd_b (X (8 + y) 9))) hx hb hts tw_fs_Q hown hK hP (hks.2.1 _ hy) (cw_CQ (Nat.lt_of_lt_of_le hy (cl_12 hC)) ad ca _ _ _ _) rfl 9 (by decide) (hts _ tw_fl_B_38) rfl rfl dd_B_isLetIn_43 ?_
          refine bq_zeq (tgt := 51) hx hb dd_B_isLetIn_46 rfl (fun h46 => ?_) (fun h46 => ?_)
          · refine lv_aload_n hx hb dd_B_isLetIn_51 rfl (lv_at hl 1 rfl) ?_
            refine lv_aload_n hx hb dd_B_isLetIn_52 rfl (lv_at hl 0 rfl) ?_
            refine cw_getk (k := 20 + t) (C := rn_B) (T := ft_B) (NF := 11) hx hb hts tw_fs_B hown hK hP (hks.2.2 _ ht) (cw_CB _ ad ca _ _ _ _) rfl 1 (by decide) (hts _ tw_fl_B_15) rfl rfl (cl_h hC ht) dd_B_isLetIn_53 ?_
            refine cw_acmp_eq (a := 8 + y) (b := 8 + N 7 t) (tgt := 68) hx hb hJ (hks.2.1 _ hy) (hks.2.1 _ (cl_hl hC ht)) dd_B_isLetIn_56 rfl (fun h56 => ?_) (fun h56 => ?_)
            · have h56 : y = N 7 t := by omega
              refine lv_aload_n hx hb dd_B_isLetIn_68 rfl (lv_at hl 1 rfl) ?_
              refine cw_getk (k := 8 + y) (C := rn_Q) (T := ft_Q) (NF := 10) hx hb hts tw_fs_Q hown hK hP (hks.2.1 _ hy) (cw_CQ (Nat.lt_of_lt_of_le hy (cl_12 hC)) ad ca _ _ _ _) rfl 2 (by decide) (hts _ tw_fl_B_44) rfl rfl (cl_t1 hC hy hj3) dd_B_isLetIn_69 ?_
              refine lv_astore_n hx hb dd_B_isLetIn_72 rfl hl (by decide) rfl (fun ls hl => ?_)
              have hl : lv_has ls 2 [(1, .ref (ad (8 + N 2 y))), (0, .ref (ad (20 + t)))] := hl
              refine lv_goto (tgt := 24) hx hb dd_B_isLetIn_73 rfl ?_
              exact ih ls (by rw [← he, sp_any (cl_tr hC) _ hy, show cs_no M X F (N 7 t) y = false by simp [cs_no, h32, h39, h46, decide_eq_true h56], decide_eq_true hj3]; rfl) (lv_sub hl [1, 0] rfl)
            · have h56 : y ≠ N 7 t := by omega
              refine lv_aload_n hx hb dd_B_isLetIn_59 rfl (lv_at hl 1 rfl) ?_
              refine cw_calli (k := 8 + y) (C := rn_Q) (T := ft_Q) (NF := 10) (As := []) (rest := []) (v := bd_b (cs_cl X F y)) ⟨hx, hb, hml, hown, hts⟩ (cc_Q_isClosed l D ks ad ca M X F G N O B hC hks hMB y hy) (bg_cwV 0 hts tw_ml_B_41 tw_im_Q_isClosed tw_se_Q_isClosed tw_in_Q tw_co_Q_isClosed rfl rfl th_Q_isClosed ⟨Nat.le_of_ble_eq_true rfl, Nat.le_of_ble_eq_true rfl⟩) hK hP (hks.2.1 _ hy) (cw_CQ (Nat.lt_of_lt_of_le hy (cl_12 hC)) ad ca _ _ _ _) rfl rfl hl.1 rfl (Nat.le_of_ble_eq_true rfl) dd_B_isLetIn_60 ⟨Nat.zero_le _, Nat.zero_le _⟩ ?_
              refine bq_zeq (tgt := 68) hx hb dd_B_isLetIn_63 rfl (fun h63 => ?_) (fun h63 => ?_)
              · refine lv_aload_n hx hb dd_B_isLetIn_68 rfl (lv_at hl 1 rfl) ?_
                refine cw_getk (k := 8 + y) (C := rn_Q) (T := ft_Q) (NF := 10) hx hb hts tw_fs_Q hown hK hP (hks.2.1 _ hy) (cw_CQ (Nat.lt_of_lt_of_le hy (cl_12 hC)) ad ca _ _ _ _) rfl 2 (by decide) (hts _ tw_fl_B_44) rfl rfl (cl_t1 hC hy hj3) dd_B_isLetIn_69 ?_
                refine lv_astore_n hx hb dd_B_isLetIn_72 rfl hl (by decide) rfl (fun ls hl => ?_)
                have hl : lv_has ls 2 [(1, .ref (ad (8 + N 2 y))), (0, .ref (ad (20 + t)))] := hl
                refine lv_goto (tgt := 24) hx hb dd_B_isLetIn_73 rfl ?_
                exact ih ls (by rw [← he, sp_any (cl_tr hC) _ hy, show cs_no M X F (N 7 t) y = false by simp [cs_no, h32, h39, h46, decide_eq_false h56, h63], decide_eq_true hj3]; rfl) (lv_sub hl [1, 0] rfl)
              · refine lv_iconst (v := bd_b false) hx hb dd_B_isLetIn_66 (by decide) ?_
                exact W.zret (ty := .boolean) hx hb hr (bd_b_nar _) (fun tt htt hWW => ⟨_, rfl, (by rw [← he, sp_any (cl_tr hC) _ hy, show cs_no M X F (N 7 t) y = true by simp [cs_no, h32, h39, h46, decide_eq_false h56, h63]]; rfl), htt⟩) (fun _ h => by cases h) dd_B_isLetIn_67
          · refine lv_iconst (v := bd_b false) hx hb dd_B_isLetIn_49 (by decide) ?_
            exact W.zret (ty := .boolean) hx hb hr (bd_b_nar _) (fun tt htt hWW => ⟨_, rfl, (by rw [← he, sp_any (cl_tr hC) _ hy, show cs_no M X F (N 7 t) y = true by simp [cs_no, hj3, h32, h39, h46]]; rfl), htt⟩) (fun _ h => by cases h) dd_B_isLetIn_50
  refine lv_aload_n hx hb dd_B_isLetIn_0 rfl (lv_at hl 0 rfl) ?_
  refine cw_get1 (k := 20 + t) (C := rn_B) (T := ft_B) (NF := 11) (v := .int (bd_b (X (20 + t) 2))) hx hb hts tw_fs_B hown hK hP (hks.2.2 _ ht) (cw_CB _ ad ca _ _ _ _) rfl 2 (by decide) (hts _ tw_fl_B_19) rfl rfl dd_B_isLetIn_1 ?_
  refine bq_zeq (tgt := 19) hx hb dd_B_isLetIn_4 rfl (fun h4 => ?_) (fun h4 => ?_)
  · refine lv_aload_n hx hb dd_B_isLetIn_19 rfl (lv_at hl 0 rfl) ?_
    refine cw_getk (k := 20 + t) (C := rn_B) (T := ft_B) (NF := 11) hx hb hts tw_fs_B hown hK hP (hks.2.2 _ ht) (cw_CB _ ad ca _ _ _ _) rfl 1 (by decide) (hts _ tw_fl_B_15) rfl rfl (cl_h hC ht) dd_B_isLetIn_20 ?_
    refine lv_astore_n hx hb dd_B_isLetIn_23 rfl hl (by decide) rfl (fun ls hl => ?_)
    have hl : lv_has ls 2 [(1, .ref (ad (8 + N 7 t))), (0, .ref (ad (20 + t)))] := hl
    exact lp (N 7 t) (cl_hl hC ht) ls (by rw [cs_in, if_neg (by simp [h4])]) (lv_sub hl [1, 0] rfl)
  · refine lv_aload_n hx hb dd_B_isLetIn_7 rfl (lv_at hl 0 rfl) ?_
    refine cw_getk (k := 20 + t) (C := rn_B) (T := ft_B) (NF := 11) hx hb hts tw_fs_B hown hK hP (hks.2.2 _ ht) (cw_CB _ ad ca _ _ _ _) rfl 1 (by decide) (hts _ tw_fl_B_15) rfl rfl (cl_h hC ht) dd_B_isLetIn_8 ?_
    refine cw_get1 (k := 8 + N 7 t) (C := rn_Q) (T := ft_Q) (NF := 10) (v := .int (nI (M (8 + N 7 t) 7))) hx hb hts tw_fs_Q hown hK hP (hks.2.1 _ (cl_hl hC ht)) (cw_CQ (Nat.lt_of_lt_of_le (cl_hl hC ht) (cl_12 hC)) ad ca _ _ _ _) rfl 7 (by decide) (hts _ tw_fl_B_26) rfl rfl dd_B_isLetIn_11 ?_
    refine bq_nle (tgt := 19) hx hb (hMB _ _) dd_B_isLetIn_14 rfl (fun h14 => ?_) (fun h14 => ?_)
    · refine lv_aload_n hx hb dd_B_isLetIn_19 rfl (lv_at hl 0 rfl) ?_
      refine cw_getk (k := 20 + t) (C := rn_B) (T := ft_B) (NF := 11) hx hb hts tw_fs_B hown hK hP (hks.2.2 _ ht) (cw_CB _ ad ca _ _ _ _) rfl 1 (by decide) (hts _ tw_fl_B_15) rfl rfl (cl_h hC ht) dd_B_isLetIn_20 ?_
      refine lv_astore_n hx hb dd_B_isLetIn_23 rfl hl (by decide) rfl (fun ls hl => ?_)
      have hl : lv_has ls 2 [(1, .ref (ad (8 + N 7 t))), (0, .ref (ad (20 + t)))] := hl
      exact lp (N 7 t) (cl_hl hC ht) ls (by rw [cs_in, if_neg (by simp [h4, h14])]) (lv_sub hl [1, 0] rfl)
    · refine lv_iconst (v := bd_b false) hx hb dd_B_isLetIn_17 (by decide) ?_
      exact W.zret (ty := .boolean) hx hb hr (bd_b_nar _) (fun tt htt hWW => ⟨_, rfl, (by rw [cs_in, if_pos ⟨h4, h14⟩]), htt⟩) (fun _ h => by cases h) dd_B_isLetIn_18

