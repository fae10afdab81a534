/-! Part 24: the class: queueAt, blockAt, groupAt, isFull, nextDue, mayStart, choose, ready, queued, through, peak, count, state. By wip/gen/gen_cls2.py. -/
set_option maxHeartbeats 4000000 in
set_option maxRecDepth 100000 in
theorem cc_D_queueAt (l : Launch) (D : va_G) (ks : List Nat) (ad : Nat → Nat) (ca : Nat → ClassId) (M : sp_N) (X : sp_B) (F : sp_O) (G : sp_Z) (N : sp_N) (O : sp_O) (B : sp_B) (hC : cl_S M X F N O B) (hks : cl_k ks N) (hMB : cl_B M) (q : Int32) : Met l my_D_queueAt (Cond.code my_D_queueAt cd_D_queueAt 2 (some (.object "BarrierDispatch$Queue")) :: bg_tbl) ({ frames := 0, cells := 0, slots := 0, locals := 0 }) (va_Pc [.ref (ad 0), .int q] (cw_U D ks ad ca M X F G)) (va_Sq (fun r => r = ((bd_at q (N 1 0)).map (fun j => 8 + j)).map ad)) 0 0 (fun _ => False) := by
  refine Met.ofW (cc := cd_D_queueAt) (maxL := 2) (ret := (some (.object "BarrierDispatch$Queue"))) (by decide) rfl ?_
  intro p e s m args below meth c s₁ BB hml hv
  obtain ⟨rfl, hP, hK⟩ := hv
  have hx := BB.exec
  have hb := BB.bytes
  have hr := BB.returns
  have hts : ∀ w ∈ bg_tbl, w.before ([.ref (ad 0), .int q] : List Value).toArray s = true := fun w h => atoms_spec (ws := (Cond.code my_D_queueAt cd_D_queueAt 2 (some (.object "BarrierDispatch$Queue")) :: bg_tbl)) BB.pre w (List.mem_cons_of_mem _ h)
  have hown : s.vm.findClass rn_D = some m.cls := findClass_of_methodNamed BB.named
  have hlocks := BB.notSynchronized
  have h12 := cl_12 hC
  have h160 := cl_160 hC
  have h3q := cl_3 hC
  have hM4 := cl_M4 hC
  have hM5 := cl_M5 hC
  have hl := lv_entry ([.ref (ad 0), .int q]) (n := 2) (Nat.le_of_ble_eq_true rfl)
  rw [lg_entry_eq]
  generalize (lg_sl ([.ref (ad 0), .int q]) ++ List.replicate (2 - (lg_sl ([.ref (ad 0), .int q])).length) Slot.unset).toArray = ls at hl ⊢
  have hl : lv_has ls 2 [(0, .ref (ad 0)), (1, .int q)] := hl
  refine lv_iload_n hx hb dd_D_queueAt_0 rfl (lv_at hl 1 rfl) ?_
  refine lv_if_lt (tgt := 21) hx hb dd_D_queueAt_1 rfl (fun h1 => ?_) (fun h1 => ?_)
  · refine lv_null hx hb dd_D_queueAt_21 ?_
    exact W.aret hx hb hr (Or.inl ⟨_, rfl⟩) (Or.inl rfl) (fun tt htt hWW => ⟨none, rfl, (by rw [bd_at_none (bd_in_1 h1)]; rfl), htt⟩) (fun _ h => by cases h) dd_D_queueAt_22
  · refine lv_iload_n hx hb dd_D_queueAt_4 rfl (lv_at hl 1 rfl) ?_
    refine lv_aload_n hx hb dd_D_queueAt_5 rfl (lv_at hl 0 rfl) ?_
    refine cw_get1 (k := 0) (C := rn_D) (T := ft_D) (NF := 9) (v := .int (nI (M 0 4))) hx hb hts tw_fs_D hown hK hP (hks.1 0 (by decide)) (cw_C0 ad ca _ _ _ _) rfl 4 (by decide) (hts _ tw_fl_D_43) rfl rfl dd_D_queueAt_6 ?_
    refine lv_icmp_ge (tgt := 21) hx hb dd_D_queueAt_9 rfl (fun h9 => ?_) (fun h9 => ?_)
    · refine lv_null hx hb dd_D_queueAt_21 ?_
      exact W.aret hx hb hr (Or.inl ⟨_, rfl⟩) (Or.inl rfl) (fun tt htt hWW => ⟨none, rfl, (by rw [bd_at_none (by rw [← hM4]; exact bd_in_2 (hMB _ _) h9)]; rfl), htt⟩) (fun _ h => by cases h) dd_D_queueAt_22
    · obtain ⟨a, ha0, rfl⟩ := bd_in_of (bd_in_3 (hMB _ _) h1 h9) (hMB _ _)
      have ha9 : a < N 1 0 := by omega
      refine lv_aload_n hx hb dd_D_queueAt_12 rfl (lv_at hl 0 rfl) ?_
      refine cw_getk (k := 0) (C := rn_D) (T := ft_D) (NF := 9) hx hb hts tw_fs_D hown hK hP (hks.1 0 (by decide)) (cw_C0 ad ca _ _ _ _) rfl 1 (by decide) (hts _ tw_fl_D_24) rfl rfl (cl_F1 hC) dd_D_queueAt_13 ?_
      refine lv_iload_n hx hb dd_D_queueAt_16 rfl (lv_at hl 1 rfl) ?_
      refine cw_aalk (k := 1) (t0 := 0) hx hb hK hP (hks.1 1 (by decide)) (by decide) (by decide) rfl (j := a) (Nat.lt_of_lt_of_le ha9 (cl_12 hC)) (cl_q hC ha9) dd_D_queueAt_17 ?_
      refine lv_goto (tgt := 22) hx hb dd_D_queueAt_18 rfl ?_
      exact W.aret hx hb hr (Or.inl ⟨_, rfl⟩) (Or.inr ⟨_, rfl⟩) (fun tt htt hWW => ⟨some (ad (8 + a)), rfl, (by rw [bd_at_in ha9 (by omega)]; rfl), htt⟩) (fun _ h => by cases h) dd_D_queueAt_22

set_option maxHeartbeats 4000000 in
set_option maxRecDepth 100000 in
theorem cc_D_blockAt (l : Launch) (D : va_G) (ks : List Nat) (ad : Nat → Nat) (ca : Nat → ClassId) (M : sp_N) (X : sp_B) (F : sp_O) (G : sp_Z) (N : sp_N) (O : sp_O) (B : sp_B) (hC : cl_S M X F N O B) (hks : cl_k ks N) (hMB : cl_B M) (q : Int32) : Met l my_D_blockAt (Cond.code my_D_blockAt cd_D_blockAt 2 (some (.object "BarrierDispatch$Block")) :: bg_tbl) ({ frames := 0, cells := 0, slots := 0, locals := 0 }) (va_Pc [.ref (ad 0), .int q] (cw_U D ks ad ca M X F G)) (va_Sq (fun r => r = ((bd_at q (N 6 0)).map (fun j => 20 + j)).map ad)) 0 0 (fun _ => False) := by
  refine Met.ofW (cc := cd_D_blockAt) (maxL := 2) (ret := (some (.object "BarrierDispatch$Block"))) (by decide) rfl ?_
  intro p e s m args below meth c s₁ BB hml hv
  obtain ⟨rfl, hP, hK⟩ := hv
  have hx := BB.exec
  have hb := BB.bytes
  have hr := BB.returns
  have hts : ∀ w ∈ bg_tbl, w.before ([.ref (ad 0), .int q] : List Value).toArray s = true := fun w h => atoms_spec (ws := (Cond.code my_D_blockAt cd_D_blockAt 2 (some (.object "BarrierDispatch$Block")) :: bg_tbl)) BB.pre w (List.mem_cons_of_mem _ h)
  have hown : s.vm.findClass rn_D = some m.cls := findClass_of_methodNamed BB.named
  have hlocks := BB.notSynchronized
  have h12 := cl_12 hC
  have h160 := cl_160 hC
  have h3q := cl_3 hC
  have hM4 := cl_M4 hC
  have hM5 := cl_M5 hC
  have hl := lv_entry ([.ref (ad 0), .int q]) (n := 2) (Nat.le_of_ble_eq_true rfl)
  rw [lg_entry_eq]
  generalize (lg_sl ([.ref (ad 0), .int q]) ++ List.replicate (2 - (lg_sl ([.ref (ad 0), .int q])).length) Slot.unset).toArray = ls at hl ⊢
  have hl : lv_has ls 2 [(0, .ref (ad 0)), (1, .int q)] := hl
  refine lv_iload_n hx hb dd_D_blockAt_0 rfl (lv_at hl 1 rfl) ?_
  refine lv_if_lt (tgt := 21) hx hb dd_D_blockAt_1 rfl (fun h1 => ?_) (fun h1 => ?_)
  · refine lv_null hx hb dd_D_blockAt_21 ?_
    exact W.aret hx hb hr (Or.inl ⟨_, rfl⟩) (Or.inl rfl) (fun tt htt hWW => ⟨none, rfl, (by rw [bd_at_none (bd_in_1 h1)]; rfl), htt⟩) (fun _ h => by cases h) dd_D_blockAt_22
  · refine lv_iload_n hx hb dd_D_blockAt_4 rfl (lv_at hl 1 rfl) ?_
    refine lv_aload_n hx hb dd_D_blockAt_5 rfl (lv_at hl 0 rfl) ?_
    refine cw_get1 (k := 0) (C := rn_D) (T := ft_D) (NF := 9) (v := .int (nI (M 0 5))) hx hb hts tw_fs_D hown hK hP (hks.1 0 (by decide)) (cw_C0 ad ca _ _ _ _) rfl 5 (by decide) (hts _ tw_fl_D_181) rfl rfl dd_D_blockAt_6 ?_
    refine lv_icmp_ge (tgt := 21) hx hb dd_D_blockAt_9 rfl (fun h9 => ?_) (fun h9 => ?_)
    · refine lv_null hx hb dd_D_blockAt_21 ?_
      exact W.aret hx hb hr (Or.inl ⟨_, rfl⟩) (Or.inl rfl) (fun tt htt hWW => ⟨none, rfl, (by rw [bd_at_none (by rw [← hM5]; exact bd_in_2 (hMB _ _) h9)]; rfl), htt⟩) (fun _ h => by cases h) dd_D_blockAt_22
    · obtain ⟨a, ha0, rfl⟩ := bd_in_of (bd_in_3 (hMB _ _) h1 h9) (hMB _ _)
      have ha9 : a < N 6 0 := by omega
      refine lv_aload_n hx hb dd_D_blockAt_12 rfl (lv_at hl 0 rfl) ?_
      refine cw_getk (k := 0) (C := rn_D) (T := ft_D) (NF := 9) hx hb hts tw_fs_D hown hK hP (hks.1 0 (by decide)) (cw_C0 ad ca _ _ _ _) rfl 2 (by decide) (hts _ tw_fl_D_30) rfl rfl (cl_F2 hC) dd_D_blockAt_13 ?_
      refine lv_iload_n hx hb dd_D_blockAt_16 rfl (lv_at hl 1 rfl) ?_
      refine cw_aalk (k := 2) (t0 := 1) hx hb hK hP (hks.1 2 (by decide)) (by decide) (by decide) rfl (j := a) (Nat.lt_of_lt_of_le ha9 (cl_160 hC)) (cl_b hC ha9) dd_D_blockAt_17 ?_
      refine lv_goto (tgt := 22) hx hb dd_D_blockAt_18 rfl ?_
      exact W.aret hx hb hr (Or.inl ⟨_, rfl⟩) (Or.inr ⟨_, rfl⟩) (fun tt htt hWW => ⟨some (ad (20 + a)), rfl, (by rw [bd_at_in ha9 (by omega)]; rfl), htt⟩) (fun _ h => by cases h) dd_D_blockAt_22

set_option maxHeartbeats 4000000 in
set_option maxRecDepth 100000 in
theorem cc_D_groupAt (l : Launch) (D : va_G) (ks : List Nat) (ad : Nat → Nat) (ca : Nat → ClassId) (M : sp_N) (X : sp_B) (F : sp_O) (G : sp_Z) (N : sp_N) (O : sp_O) (B : sp_B) (hC : cl_S M X F N O B) (hks : cl_k ks N) (hMB : cl_B M) (q : Int32) : Met l my_D_groupAt (Cond.code my_D_groupAt cd_D_groupAt 2 (some (.object "BarrierDispatch$Group")) :: bg_tbl) ({ frames := 0, cells := 0, slots := 0, locals := 0 }) (va_Pc [.ref (ad 0), .int q] (cw_U D ks ad ca M X F G)) (va_Sq (fun r => r = ((bd_at q 4).map (fun j => 4 + j)).map ad)) 0 0 (fun _ => False) := by
  refine Met.ofW (cc := cd_D_groupAt) (maxL := 2) (ret := (some (.object "BarrierDispatch$Group"))) (by decide) rfl ?_
  intro p e s m args below meth c s₁ BB hml hv
  obtain ⟨rfl, hP, hK⟩ := hv
  have hx := BB.exec
  have hb := BB.bytes
  have hr := BB.returns
  have hts : ∀ w ∈ bg_tbl, w.before ([.ref (ad 0), .int q] : List Value).toArray s = true := fun w h => atoms_spec (ws := (Cond.code my_D_groupAt cd_D_groupAt 2 (some (.object "BarrierDispatch$Group")) :: bg_tbl)) BB.pre w (List.mem_cons_of_mem _ h)
  have hown : s.vm.findClass rn_D = some m.cls := findClass_of_methodNamed BB.named
  have hlocks := BB.notSynchronized
  have h12 := cl_12 hC
  have h160 := cl_160 hC
  have h3q := cl_3 hC
  have hM4 := cl_M4 hC
  have hM5 := cl_M5 hC
  have hl := lv_entry ([.ref (ad 0), .int q]) (n := 2) (Nat.le_of_ble_eq_true rfl)
  rw [lg_entry_eq]
  generalize (lg_sl ([.ref (ad 0), .int q]) ++ List.replicate (2 - (lg_sl ([.ref (ad 0), .int q])).length) Slot.unset).toArray = ls at hl ⊢
  have hl : lv_has ls 2 [(0, .ref (ad 0)), (1, .int q)] := hl
  refine lv_iload_n hx hb dd_D_groupAt_0 rfl (lv_at hl 1 rfl) ?_
  refine lv_if_lt (tgt := 18) hx hb dd_D_groupAt_1 rfl (fun h1 => ?_) (fun h1 => ?_)
  · refine lv_null hx hb dd_D_groupAt_18 ?_
    exact W.aret hx hb hr (Or.inl ⟨_, rfl⟩) (Or.inl rfl) (fun tt htt hWW => ⟨none, rfl, (by rw [bd_at_none (bd_in_1 h1)]; rfl), htt⟩) (fun _ h => by cases h) dd_D_groupAt_19
  · refine lv_iload_n hx hb dd_D_groupAt_4 rfl (lv_at hl 1 rfl) ?_
    refine lv_iconst (v := nI 4) hx hb dd_D_groupAt_5 (by decide) ?_
    refine lv_icmp_ge (tgt := 18) hx hb dd_D_groupAt_6 rfl (fun h6 => ?_) (fun h6 => ?_)
    · refine lv_null hx hb dd_D_groupAt_18 ?_
      exact W.aret hx hb hr (Or.inl ⟨_, rfl⟩) (Or.inl rfl) (fun tt htt hWW => ⟨none, rfl, (by rw [bd_at_none (by exact bd_in_2 (by decide) h6)]; rfl), htt⟩) (fun _ h => by cases h) dd_D_groupAt_19
    · obtain ⟨a, ha0, rfl⟩ := bd_in_of (bd_in_3 (n := 4) (by decide) h1 h6) (by decide)
      have ha9 : a < 4 := by omega
      refine lv_aload_n hx hb dd_D_groupAt_9 rfl (lv_at hl 0 rfl) ?_
      refine cw_getk (k := 0) (C := rn_D) (T := ft_D) (NF := 9) hx hb hts tw_fs_D hown hK hP (hks.1 0 (by decide)) (cw_C0 ad ca _ _ _ _) rfl 3 (by decide) (hts _ tw_fl_D_36) rfl rfl (cl_F3 hC) dd_D_groupAt_10 ?_
      refine lv_iload_n hx hb dd_D_groupAt_13 rfl (lv_at hl 1 rfl) ?_
      refine cw_aalk (k := 3) (t0 := 2) hx hb hK hP (hks.1 3 (by decide)) (by decide) (by decide) rfl (j := a) ha9 (cl_g hC ha9) dd_D_groupAt_14 ?_
      refine lv_goto (tgt := 19) hx hb dd_D_groupAt_15 rfl ?_
      exact W.aret hx hb hr (Or.inl ⟨_, rfl⟩) (Or.inr ⟨_, rfl⟩) (fun tt htt hWW => ⟨some (ad (4 + a)), rfl, (by rw [bd_at_in ha9 (by omega)]; rfl), htt⟩) (fun _ h => by cases h) dd_D_groupAt_19

set_option maxHeartbeats 4000000 in
set_option maxRecDepth 100000 in
theorem cc_D_isFull (l : Launch) (D : va_G) (ks : List Nat) (ad : Nat → Nat) (ca : Nat → ClassId) (M : sp_N) (X : sp_B) (F : sp_O) (G : sp_Z) (N : sp_N) (O : sp_O) (B : sp_B) (hC : cl_S M X F N O B) (hks : cl_k ks N) (hMB : cl_B M)  : Met l my_D_isFull (Cond.code my_D_isFull cd_D_isFull 1 (some .boolean) :: bg_tbl) ({ frames := 0, cells := 0, slots := 0, locals := 0 }) (va_Pc [.ref (ad 0)] (cw_U D ks ad ca M X F G)) (vp_Si (fun r => r = bd_b (decide (160 ≤ N 6 0)))) 0 0 (fun _ => False) := by
  refine Met.ofW (cc := cd_D_isFull) (maxL := 1) (ret := (some .boolean)) (by decide) rfl ?_
  intro p e s m args below meth c s₁ BB hml hv
  obtain ⟨rfl, hP, hK⟩ := hv
  have hx := BB.exec
  have hb := BB.bytes
  have hr := BB.returns
  have hts : ∀ w ∈ bg_tbl, w.before ([.ref (ad 0)] : List Value).toArray s = true := fun w h => atoms_spec (ws := (Cond.code my_D_isFull cd_D_isFull 1 (some .boolean) :: bg_tbl)) BB.pre w (List.mem_cons_of_mem _ h)
  have hown : s.vm.findClass rn_D = some m.cls := findClass_of_methodNamed BB.named
  have hlocks := BB.notSynchronized
  have h12 := cl_12 hC
  have h160 := cl_160 hC
  have h3q := cl_3 hC
  have hM4 := cl_M4 hC
  have hM5 := cl_M5 hC
  have hl := lv_entry ([.ref (ad 0)]) (n := 1) (Nat.le_of_ble_eq_true rfl)
  rw [lg_entry_eq]
  generalize (lg_sl ([.ref (ad 0)]) ++ List.replicate (1 - (lg_sl ([.ref (ad 0)])).length) Slot.unset).toArray = ls at hl ⊢
  have hl : lv_has ls 1 [(0, .ref (ad 0))] := hl
  refine lv_aload_n hx hb dd_D_isFull_0 rfl (lv_at hl 0 rfl) ?_
  refine cw_get1 (k := 0) (C := rn_D) (T := ft_D) (NF := 9) (v := .int (nI (M 0 5))) hx hb hts tw_fs_D hown hK hP (hks.1 0 (by decide)) (cw_C0 ad ca _ _ _ _) rfl 5 (by decide) (hts _ tw_fl_D_181) rfl rfl dd_D_isFull_1 ?_
  refine lv_sipush (v := nI 160) hx hb dd_D_isFull_4 (by decide) ?_
  refine bq_lt (tgt := 14) hx hb (hMB _ _) (by decide) dd_D_isFull_7 rfl (fun h7 => ?_) (fun h7 => ?_)
  · refine lv_iconst (v := bd_b false) hx hb dd_D_isFull_14 (by decide) ?_
    exact W.zret (ty := .boolean) hx hb hr (bd_b_nar _) (fun tt htt hWW => ⟨_, rfl, (by rw [decide_eq_false (by omega)]), htt⟩) (fun _ h => by cases h) dd_D_isFull_15
  · refine lv_iconst (v := bd_b true) hx hb dd_D_isFull_10 (by decide) ?_
    refine lv_goto (tgt := 15) hx hb dd_D_isFull_11 rfl ?_
    exact W.zret (ty := .boolean) hx hb hr (bd_b_nar _) (fun tt htt hWW => ⟨_, rfl, (by rw [decide_eq_true (by omega)]), htt⟩) (fun _ h => by cases h) dd_D_isFull_15

set_option maxHeartbeats 4000000 in
set_option maxRecDepth 100000 in
theorem cc_D_queued (l : Launch) (D : va_G) (ks : List Nat) (ad : Nat → Nat) (ca : Nat → ClassId) (M : sp_N) (X : sp_B) (F : sp_O) (G : sp_Z) (N : sp_N) (O : sp_O) (B : sp_B) (hC : cl_S M X F N O B) (hks : cl_k ks N) (hMB : cl_B M) (q : Int32) : Met l my_D_queued (Cond.code my_D_queued cd_D_queued 3 (some .int) :: bg_tbl) ({ frames := 1, cells := 0, slots := 0, locals := 21 }) (va_Pc [.ref (ad 0), .int q] (cw_U D ks ad ca M X F G)) (vp_Si (fun r => r = cs_q M (bd_at q (N 1 0)) 6)) 0 0 (fun _ => False) := by
  refine Met.ofW (cc := cd_D_queued) (maxL := 3) (ret := (some .int)) (by decide) rfl ?_
  intro p e s m args below meth c s₁ BB hml hv
  obtain ⟨rfl, hP, hK⟩ := hv
  have hx := BB.exec
  have hb := BB.bytes
  have hr := BB.returns
  have hts : ∀ w ∈ bg_tbl, w.before ([.ref (ad 0), .int q] : List Value).toArray s = true := fun w h => atoms_spec (ws := (Cond.code my_D_queued cd_D_queued 3 (some .int) :: bg_tbl)) BB.pre w (List.mem_cons_of_mem _ h)
  have hown : s.vm.findClass rn_D = some m.cls := findClass_of_methodNamed BB.named
  have hlocks := BB.notSynchronized
  have h12 := cl_12 hC
  have h160 := cl_160 hC
  have h3q := cl_3 hC
  have hM4 := cl_M4 hC
  have hM5 := cl_M5 hC
  have hl := lv_entry ([.ref (ad 0), .int q]) (n := 3) (Nat.le_of_ble_eq_true rfl)
  rw [lg_entry_eq]
  generalize (lg_sl ([.ref (ad 0), .int q]) ++ List.replicate (3 - (lg_sl ([.ref (ad 0), .int q])).length) Slot.unset).toArray = ls at hl ⊢
  have hl : lv_has ls 3 [(0, .ref (ad 0)), (1, .int q)] := hl
  refine lv_aload_n hx hb dd_D_queued_0 rfl (lv_at hl 0 rfl) ?_
  refine lv_iload_n hx hb dd_D_queued_1 rfl (lv_at hl 1 rfl) ?_
  refine cw_callq (k := 0) (C := rn_D) (T := ft_D) (NF := 9) (As := [.int q]) (rest := []) ⟨hx, hb, hml, hown, hts⟩ (cc_D_queueAt l D ks ad ca M X F G N O B hC hks hMB q) (bg_cwV 1 hts tw_ml_D_47 tw_im_D_queueAt tw_se_D_queueAt tw_in_D tw_co_D_queueAt rfl rfl th_D_queueAt ⟨Nat.le_of_ble_eq_true rfl, Nat.le_of_ble_eq_true rfl⟩) hK hP (hks.1 0 (by decide)) (cw_C0 ad ca _ _ _ _) rfl rfl hl.1 rfl (Nat.le_of_ble_eq_true rfl) dd_D_queued_2 ⟨Nat.zero_le _, Nat.zero_le _⟩ (fun h2 => ?_) (fun k9 h2 => ?_)
  · have hq2 := bd_map_n h2
    refine lv_astore_nN hx hb dd_D_queued_5 rfl hl (by decide) rfl (fun ls hl => ?_)
    have hl : lv_has ls 3 [(2, .null), (0, .ref (ad 0)), (1, .int q)] := hl
    refine lv_aload_nN hx hb dd_D_queued_6 rfl (lv_at hl 0 rfl) ?_
    refine lv_ifnonnullN hx hb dd_D_queued_7 ?_
    refine lv_iconst (v := -1) hx hb dd_D_queued_10 (by decide) ?_
    refine lv_goto (tgt := 18) hx hb dd_D_queued_11 rfl ?_
    exact W.iret hx hb hr (fun tt htt hWW => ⟨_, rfl, (by rw [hq2]; rfl), htt⟩) (fun _ h => by cases h) dd_D_queued_18
  · obtain ⟨a2, hq2, hl2, rfl, rfl⟩ := bd_map_s (by omega) h2
    refine lv_astore_n hx hb dd_D_queued_5 rfl hl (by decide) rfl (fun ls hl => ?_)
    have hl : lv_has ls 3 [(2, .ref (ad (8 + a2))), (0, .ref (ad 0)), (1, .int (nI a2))] := hl
    refine lv_aload_n hx hb dd_D_queued_6 rfl (lv_at hl 0 rfl) ?_
    refine lv_ifnonnull (tgt := 14) hx hb dd_D_queued_7 rfl ?_
    refine lv_aload_n hx hb dd_D_queued_14 rfl (lv_at hl 0 rfl) ?_
    refine cw_get1 (k := 8 + a2) (C := rn_Q) (T := ft_Q) (NF := 10) (v := .int (nI (M (8 + a2) 6))) hx hb hts tw_fs_Q hown hK hP (hks.2.1 _ hl2) (cw_CQ (Nat.lt_of_lt_of_le hl2 (cl_12 hC)) ad ca _ _ _ _) rfl 6 (by decide) (hts _ tw_fl_D_168) rfl rfl dd_D_queued_15 ?_
    exact W.iret hx hb hr (fun tt htt hWW => ⟨_, rfl, (by rw [hq2]; rfl), htt⟩) (fun _ h => by cases h) dd_D_queued_18

set_option maxHeartbeats 4000000 in
set_option maxRecDepth 100000 in
theorem cc_D_through (l : Launch) (D : va_G) (ks : List Nat) (ad : Nat → Nat) (ca : Nat → ClassId) (M : sp_N) (X : sp_B) (F : sp_O) (G : sp_Z) (N : sp_N) (O : sp_O) (B : sp_B) (hC : cl_S M X F N O B) (hks : cl_k ks N) (hMB : cl_B M) (q : Int32) : Met l my_D_through (Cond.code my_D_through cd_D_through 3 (some .int) :: bg_tbl) ({ frames := 1, cells := 0, slots := 0, locals := 21 }) (va_Pc [.ref (ad 0), .int q] (cw_U D ks ad ca M X F G)) (vp_Si (fun r => r = cs_q M (bd_at q (N 1 0)) 7)) 0 0 (fun _ => False) := by
  refine Met.ofW (cc := cd_D_through) (maxL := 3) (ret := (some .int)) (by decide) rfl ?_
  intro p e s m args below meth c s₁ BB hml hv
  obtain ⟨rfl, hP, hK⟩ := hv
  have hx := BB.exec
  have hb := BB.bytes
  have hr := BB.returns
  have hts : ∀ w ∈ bg_tbl, w.before ([.ref (ad 0), .int q] : List Value).toArray s = true := fun w h => atoms_spec (ws := (Cond.code my_D_through cd_D_through 3 (some .int) :: bg_tbl)) BB.pre w (List.mem_cons_of_mem _ h)
  have hown : s.vm.findClass rn_D = some m.cls := findClass_of_methodNamed BB.named
  have hlocks := BB.notSynchronized
  have h12 := cl_12 hC
  have h160 := cl_160 hC
  have h3q := cl_3 hC
  have hM4 := cl_M4 hC
  have hM5 := cl_M5 hC
  have hl := lv_entry ([.ref (ad 0), .int q]) (n := 3) (Nat.le_of_ble_eq_true rfl)
  rw [lg_entry_eq]
  generalize (lg_sl ([.ref (ad 0), .int q]) ++ List.replicate (3 - (lg_sl ([.ref (ad 0), .int q])).length) Slot.unset).toArray = ls at hl ⊢
  have hl : lv_has ls 3 [(0, .ref (ad 0)), (1, .int q)] := hl
  refine lv_aload_n hx hb dd_D_through_0 rfl (lv_at hl 0 rfl) ?_
  refine lv_iload_n hx hb dd_D_through_1 rfl (lv_at hl 1 rfl) ?_
  refine cw_callq (k := 0) (C := rn_D) (T := ft_D) (NF := 9) (As := [.int q]) (rest := []) ⟨hx, hb, hml, hown, hts⟩ (cc_D_queueAt l D ks ad ca M X F G N O B hC hks hMB q) (bg_cwV 1 hts tw_ml_D_47 tw_im_D_queueAt tw_se_D_queueAt tw_in_D tw_co_D_queueAt rfl rfl th_D_queueAt ⟨Nat.le_of_ble_eq_true rfl, Nat.le_of_ble_eq_true rfl⟩) hK hP (hks.1 0 (by decide)) (cw_C0 ad ca _ _ _ _) rfl rfl hl.1 rfl (Nat.le_of_ble_eq_true rfl) dd_D_through_2 ⟨Nat.zero_le _, Nat.zero_le _⟩ (fun h2 => ?_) (fun k9 h2 => ?_)
  · have hq2 := bd_map_n h2
    refine lv_astore_nN hx hb dd_D_through_5 rfl hl (by decide) rfl (fun ls hl => ?_)
    have hl : lv_has ls 3 [(2, .null), (0, .ref (ad 0)), (1, .int q)] := hl
    refine lv_aload_nN hx hb dd_D_through_6 rfl (lv_at hl 0 rfl) ?_
    refine lv_ifnonnullN hx hb dd_D_through_7 ?_
    refine lv_iconst (v := -1) hx hb dd_D_through_10 (by decide) ?_
    refine lv_goto (tgt := 18) hx hb dd_D_through_11 rfl ?_
    exact W.iret hx hb hr (fun tt htt hWW => ⟨_, rfl, (by rw [hq2]; rfl), htt⟩) (fun _ h => by cases h) dd_D_through_18
  · obtain ⟨a2, hq2, hl2, rfl, rfl⟩ := bd_map_s (by omega) h2
    refine lv_astore_n hx hb dd_D_through_5 rfl hl (by decide) rfl (fun ls hl => ?_)
    have hl : lv_has ls 3 [(2, .ref (ad (8 + a2))), (0, .ref (ad 0)), (1, .int (nI a2))] := hl
    refine lv_aload_n hx hb dd_D_through_6 rfl (lv_at hl 0 rfl) ?_
    refine lv_ifnonnull (tgt := 14) hx hb dd_D_through_7 rfl ?_
    refine lv_aload_n hx hb dd_D_through_14 rfl (lv_at hl 0 rfl) ?_
    refine cw_get1 (k := 8 + a2) (C := rn_Q) (T := ft_Q) (NF := 10) (v := .int (nI (M (8 + a2) 7))) hx hb hts tw_fs_Q hown hK hP (hks.2.1 _ hl2) (cw_CQ (Nat.lt_of_lt_of_le hl2 (cl_12 hC)) ad ca _ _ _ _) rfl 7 (by decide) (hts _ tw_fl_D_59) rfl rfl dd_D_through_15 ?_
    exact W.iret hx hb hr (fun tt htt hWW => ⟨_, rfl, (by rw [hq2]; rfl), htt⟩) (fun _ h => by cases h) dd_D_through_18

set_option maxHeartbeats 4000000 in
set_option maxRecDepth 100000 in
theorem cc_D_peak (l : Launch) (D : va_G) (ks : List Nat) (ad : Nat → Nat) (ca : Nat → ClassId) (M : sp_N) (X : sp_B) (F : sp_O) (G : sp_Z) (N : sp_N) (O : sp_O) (B : sp_B) (hC : cl_S M X F N O B) (hks : cl_k ks N) (hMB : cl_B M) (q : Int32) : Met l my_D_peak (Cond.code my_D_peak cd_D_peak 3 (some .int) :: bg_tbl) ({ frames := 1, cells := 0, slots := 0, locals := 21 }) (va_Pc [.ref (ad 0), .int q] (cw_U D ks ad ca M X F G)) (vp_Si (fun r => r = cs_q M (bd_at q (N 1 0)) 8)) 0 0 (fun _ => False) := by
  refine Met.ofW (cc := cd_D_peak) (maxL := 3) (ret := (some .int)) (by decide) rfl ?_
  intro p e s m args below meth c s₁ BB hml hv
  obtain ⟨rfl, hP, hK⟩ := hv
  have hx := BB.exec
  have hb := BB.bytes
  have hr := BB.returns
  have hts : ∀ w ∈ bg_tbl, w.before ([.ref (ad 0), .int q] : List Value).toArray s = true := fun w h => atoms_spec (ws := (Cond.code my_D_peak cd_D_peak 3 (some .int) :: bg_tbl)) BB.pre w (List.mem_cons_of_mem _ h)
  have hown : s.vm.findClass rn_D = some m.cls := findClass_of_methodNamed BB.named
  have hlocks := BB.notSynchronized
  have h12 := cl_12 hC
  have h160 := cl_160 hC
  have h3q := cl_3 hC
  have hM4 := cl_M4 hC
  have hM5 := cl_M5 hC
  have hl := lv_entry ([.ref (ad 0), .int q]) (n := 3) (Nat.le_of_ble_eq_true rfl)
  rw [lg_entry_eq]
  generalize (lg_sl ([.ref (ad 0), .int q]) ++ List.replicate (3 - (lg_sl ([.ref (ad 0), .int q])).length) Slot.unset).toArray = ls at hl ⊢
  have hl : lv_has ls 3 [(0, .ref (ad 0)), (1, .int q)] := hl
  refine lv_aload_n hx hb dd_D_peak_0 rfl (lv_at hl 0 rfl) ?_
  refine lv_iload_n hx hb dd_D_peak_1 rfl (lv_at hl 1 rfl) ?_
  refine cw_callq (k := 0) (C := rn_D) (T := ft_D) (NF := 9) (As := [.int q]) (rest := []) ⟨hx, hb, hml, hown, hts⟩ (cc_D_queueAt l D ks ad ca M X F G N O B hC hks hMB q) (bg_cwV 1 hts tw_ml_D_47 tw_im_D_queueAt tw_se_D_queueAt tw_in_D tw_co_D_queueAt rfl rfl th_D_queueAt ⟨Nat.le_of_ble_eq_true rfl, Nat.le_of_ble_eq_true rfl⟩) hK hP (hks.1 0 (by decide)) (cw_C0 ad ca _ _ _ _) rfl rfl hl.1 rfl (Nat.le_of_ble_eq_true rfl) dd_D_peak_2 ⟨Nat.zero_le _, Nat.zero_le _⟩ (fun h2 => ?_) (fun k9 h2 => ?_)
  · have hq2 := bd_map_n h2
    refine lv_astore_nN hx hb dd_D_peak_5 rfl hl (by decide) rfl (fun ls hl => ?_)
    have hl : lv_has ls 3 [(2, .null), (0, .ref (ad 0)), (1, .int q)] := hl
    refine lv_aload_nN hx hb dd_D_peak_6 rfl (lv_at hl 0 rfl) ?_
    refine lv_ifnonnullN hx hb dd_D_peak_7 ?_
    refine lv_iconst (v := -1) hx hb dd_D_peak_10 (by decide) ?_
    refine lv_goto (tgt := 18) hx hb dd_D_peak_11 rfl ?_
    exact W.iret hx hb hr (fun tt htt hWW => ⟨_, rfl, (by rw [hq2]; rfl), htt⟩) (fun _ h => by cases h) dd_D_peak_18
  · obtain ⟨a2, hq2, hl2, rfl, rfl⟩ := bd_map_s (by omega) h2
    refine lv_astore_n hx hb dd_D_peak_5 rfl hl (by decide) rfl (fun ls hl => ?_)
    have hl : lv_has ls 3 [(2, .ref (ad (8 + a2))), (0, .ref (ad 0)), (1, .int (nI a2))] := hl
    refine lv_aload_n hx hb dd_D_peak_6 rfl (lv_at hl 0 rfl) ?_
    refine lv_ifnonnull (tgt := 14) hx hb dd_D_peak_7 rfl ?_
    refine lv_aload_n hx hb dd_D_peak_14 rfl (lv_at hl 0 rfl) ?_
    refine cw_get1 (k := 8 + a2) (C := rn_Q) (T := ft_Q) (NF := 10) (v := .int (nI (M (8 + a2) 8))) hx hb hts tw_fs_Q hown hK hP (hks.2.1 _ hl2) (cw_CQ (Nat.lt_of_lt_of_le hl2 (cl_12 hC)) ad ca _ _ _ _) rfl 8 (by decide) (hts _ tw_fl_D_171) rfl rfl dd_D_peak_15 ?_
    exact W.iret hx hb hr (fun tt htt hWW => ⟨_, rfl, (by rw [hq2]; rfl), htt⟩) (fun _ h => by cases h) dd_D_peak_18

set_option maxHeartbeats 4000000 in
set_option maxRecDepth 100000 in
theorem cc_D_count (l : Launch) (D : va_G) (ks : List Nat) (ad : Nat → Nat) (ca : Nat → ClassId) (M : sp_N) (X : sp_B) (F : sp_O) (G : sp_Z) (N : sp_N) (O : sp_O) (B : sp_B) (hC : cl_S M X F N O B) (hks : cl_k ks N) (hMB : cl_B M) (q : Int32) : Met l my_D_count (Cond.code my_D_count cd_D_count 3 (some .int) :: bg_tbl) ({ frames := 1, cells := 0, slots := 0, locals := 21 }) (va_Pc [.ref (ad 0), .int q] (cw_U D ks ad ca M X F G)) (vp_Si (fun r => r = cs_ct M (bd_at q 4))) 0 0 (fun _ => False) := by
  refine Met.ofW (cc := cd_D_count) (maxL := 3) (ret := (some .int)) (by decide) rfl ?_
  intro p e s m args below meth c s₁ BB hml hv
  obtain ⟨rfl, hP, hK⟩ := hv
  have hx := BB.exec
  have hb := BB.bytes
  have hr := BB.returns
  have hts : ∀ w ∈ bg_tbl, w.before ([.ref (ad 0), .int q] : List Value).toArray s = true := fun w h => atoms_spec (ws := (Cond.code my_D_count cd_D_count 3 (some .int) :: bg_tbl)) BB.pre w (List.mem_cons_of_mem _ h)
  have hown : s.vm.findClass rn_D = some m.cls := findClass_of_methodNamed BB.named
  have hlocks := BB.notSynchronized
  have h12 := cl_12 hC
  have h160 := cl_160 hC
  have h3q := cl_3 hC
  have hM4 := cl_M4 hC
  have hM5 := cl_M5 hC
  have hl := lv_entry ([.ref (ad 0), .int q]) (n := 3) (Nat.le_of_ble_eq_true rfl)
  rw [lg_entry_eq]
  generalize (lg_sl ([.ref (ad 0), .int q]) ++ List.replicate (3 - (lg_sl ([.ref (ad 0), .int q])).length) Slot.unset).toArray = ls at hl ⊢
  have hl : lv_has ls 3 [(0, .ref (ad 0)), (1, .int q)] := hl
  refine lv_aload_n hx hb dd_D_count_0 rfl (lv_at hl 0 rfl) ?_
  refine lv_iload_n hx hb dd_D_count_1 rfl (lv_at hl 1 rfl) ?_
  refine cw_callq (k := 0) (C := rn_D) (T := ft_D) (NF := 9) (As := [.int q]) (rest := []) ⟨hx, hb, hml, hown, hts⟩ (cc_D_groupAt l D ks ad ca M X F G N O B hC hks hMB q) (bg_cwV 1 hts tw_ml_D_66 tw_im_D_groupAt tw_se_D_groupAt tw_in_D tw_co_D_groupAt rfl rfl th_D_groupAt ⟨Nat.le_of_ble_eq_true rfl, Nat.le_of_ble_eq_true rfl⟩) hK hP (hks.1 0 (by decide)) (cw_C0 ad ca _ _ _ _) rfl rfl hl.1 rfl (Nat.le_of_ble_eq_true rfl) dd_D_count_2 ⟨Nat.zero_le _, Nat.zero_le _⟩ (fun h2 => ?_) (fun k9 h2 => ?_)
  · have hq2 := bd_map_n h2
    refine lv_astore_nN hx hb dd_D_count_5 rfl hl (by decide) rfl (fun ls hl => ?_)
    have hl : lv_has ls 3 [(2, .null), (0, .ref (ad 0)), (1, .int q)] := hl
    refine lv_aload_nN hx hb dd_D_count_6 rfl (lv_at hl 0 rfl) ?_
    refine lv_ifnonnullN hx hb dd_D_count_7 ?_
    refine lv_bipush (v := -2) hx hb dd_D_count_10 (by decide) ?_
    refine lv_goto (tgt := 24) hx hb dd_D_count_12 rfl ?_
    exact W.iret hx hb hr (fun tt htt hWW => ⟨_, rfl, (by rw [hq2]; rfl), htt⟩) (fun _ h => by cases h) dd_D_count_24
  · obtain ⟨a2, hq2, hl2, rfl, rfl⟩ := bd_map_s (by omega) h2
    refine lv_astore_n hx hb dd_D_count_5 rfl hl (by decide) rfl (fun ls hl => ?_)
    have hl : lv_has ls 3 [(2, .ref (ad (4 + a2))), (0, .ref (ad 0)), (1, .int (nI a2))] := hl
    refine lv_aload_n hx hb dd_D_count_6 rfl (lv_at hl 0 rfl) ?_
    refine lv_ifnonnull (tgt := 15) hx hb dd_D_count_7 rfl ?_
    refine lv_aload_n hx hb dd_D_count_15 rfl (lv_at hl 0 rfl) ?_
    refine cw_get1 (k := 4 + a2) (C := rn_G) (T := ft_G) (NF := 2) (v := .int (nI (M (4 + a2) 0))) hx hb hts tw_fs_G hown hK hP (hks.1 _ (by omega)) (cw_CG hl2 ad ca _ _ _ _) rfl 0 (by decide) (hts _ tw_fl_D_120) rfl rfl dd_D_count_16 ?_
    refine lv_aload_n hx hb dd_D_count_19 rfl (lv_at hl 0 rfl) ?_
    refine cw_get1 (k := 4 + a2) (C := rn_G) (T := ft_G) (NF := 2) (v := .int (nI (M (4 + a2) 1))) hx hb hts tw_fs_G hown hK hP (hks.1 _ (by omega)) (cw_CG hl2 ad ca _ _ _ _) rfl 1 (by decide) (hts _ tw_fl_D_81) rfl rfl dd_D_count_20 ?_
    refine lv_iadd hx hb dd_D_count_23 ?_
    rw [nI_add]
    exact W.iret hx hb hr (fun tt htt hWW => ⟨_, rfl, (by rw [hq2]; rfl), htt⟩) (fun _ h => by cases h) dd_D_count_24

set_option maxHeartbeats 4000000 in
set_option maxRecDepth 100000 in
theorem cc_D_state (l : Launch) (D : va_G) (ks : List Nat) (ad : Nat → Nat) (ca : Nat → ClassId) (M : sp_N) (X : sp_B) (F : sp_O) (G : sp_Z) (N : sp_N) (O : sp_O) (B : sp_B) (hC : cl_S M X F N O B) (hks : cl_k ks N) (hMB : cl_B M) (q : Int32) : Met l my_D_state (Cond.code my_D_state cd_D_state 3 (some .int) :: bg_tbl) ({ frames := 1, cells := 0, slots := 0, locals := 21 }) (va_Pc [.ref (ad 0), .int q] (cw_U D ks ad ca M X F G)) (vp_Si (fun r => r = cs_st M X (bd_at q (N 6 0)))) 0 0 (fun _ => False) := by
  refine Met.ofW (cc := cd_D_state) (maxL := 3) (ret := (some .int)) (by decide) rfl ?_
  intro p e s m args below meth c s₁ BB hml hv
  obtain ⟨rfl, hP, hK⟩ := hv
  have hx := BB.exec
  have hb := BB.bytes
  have hr := BB.returns
  have hts : ∀ w ∈ bg_tbl, w.before ([.ref (ad 0), .int q] : List Value).toArray s = true := fun w h => atoms_spec (ws := (Cond.code my_D_state cd_D_state 3 (some .int) :: bg_tbl)) BB.pre w (List.mem_cons_of_mem _ h)
  have hown : s.vm.findClass rn_D = some m.cls := findClass_of_methodNamed BB.named
  have hlocks := BB.notSynchronized
  have h12 := cl_12 hC
  have h160 := cl_160 hC
  have h3q := cl_3 hC
  have hM4 := cl_M4 hC
  have hM5 := cl_M5 hC
  have hl := lv_entry ([.ref (ad 0), .int q]) (n := 3) (Nat.le_of_ble_eq_true rfl)
  rw [lg_entry_eq]
  generalize (lg_sl ([.ref (ad 0), .int q]) ++ List.replicate (3 - (lg_sl ([.ref (ad 0), .int q])).length) Slot.unset).toArray = ls at hl ⊢
  have hl : lv_has ls 3 [(0, .ref (ad 0)), (1, .int q)] := hl
  refine lv_aload_n hx hb dd_D_state_0 rfl (lv_at hl 0 rfl) ?_
  refine lv_iload_n hx hb dd_D_state_1 rfl (lv_at hl 1 rfl) ?_
  refine cw_callq (k := 0) (C := rn_D) (T := ft_D) (NF := 9) (As := [.int q]) (rest := []) ⟨hx, hb, hml, hown, hts⟩ (cc_D_blockAt l D ks ad ca M X F G N O B hC hks hMB q) (bg_cwV 1 hts tw_ml_D_102 tw_im_D_blockAt tw_se_D_blockAt tw_in_D tw_co_D_blockAt rfl rfl th_D_blockAt ⟨Nat.le_of_ble_eq_true rfl, Nat.le_of_ble_eq_true rfl⟩) hK hP (hks.1 0 (by decide)) (cw_C0 ad ca _ _ _ _) rfl rfl hl.1 rfl (Nat.le_of_ble_eq_true rfl) dd_D_state_2 ⟨Nat.zero_le _, Nat.zero_le _⟩ (fun h2 => ?_) (fun k9 h2 => ?_)
  · have hq2 := bd_map_n h2
    refine lv_astore_nN hx hb dd_D_state_5 rfl hl (by decide) rfl (fun ls hl => ?_)
    have hl : lv_has ls 3 [(2, .null), (0, .ref (ad 0)), (1, .int q)] := hl
    refine lv_aload_nN hx hb dd_D_state_6 rfl (lv_at hl 0 rfl) ?_
    refine lv_ifnonnullN hx hb dd_D_state_7 ?_
    refine lv_bipush (v := -3) hx hb dd_D_state_10 (by decide) ?_
    exact W.iret hx hb hr (fun tt htt hWW => ⟨_, rfl, (by rw [hq2]; rfl), htt⟩) (fun _ h => by cases h) dd_D_state_12
  · obtain ⟨a2, hq2, hl2, rfl, rfl⟩ := bd_map_s (by omega) h2
    refine lv_astore_n hx hb dd_D_state_5 rfl hl (by decide) rfl (fun ls hl => ?_)
    have hl : lv_has ls 3 [(2, .ref (ad (20 + a2))), (0, .ref (ad 0)), (1, .int (nI a2))] := hl
    refine lv_aload_n hx hb dd_D_state_6 rfl (lv_at hl 0 rfl) ?_
    refine lv_ifnonnull (tgt := 13) hx hb dd_D_state_7 rfl ?_
    refine lv_aload_n hx hb dd_D_state_13 rfl (lv_at hl 0 rfl) ?_
    refine cw_get1 (k := 20 + a2) (C := rn_B) (T := ft_B) (NF := 11) (v := .int (bd_b (X (20 + a2) 4))) hx hb hts tw_fs_B hown hK hP (hks.2.2 _ hl2) (cw_CB _ ad ca _ _ _ _) rfl 4 (by decide) (hts _ tw_fl_D_127) rfl rfl dd_D_state_14 ?_
    refine bq_zeq (tgt := 30) hx hb dd_D_state_17 rfl (fun h17 => ?_) (fun h17 => ?_)
    · refine lv_aload_n hx hb dd_D_state_30 rfl (lv_at hl 0 rfl) ?_
      refine cw_get1 (k := 20 + a2) (C := rn_B) (T := ft_B) (NF := 11) (v := .int (nI (M (20 + a2) 3))) hx hb hts tw_fs_B hown hK hP (hks.2.2 _ hl2) (cw_CB _ ad ca _ _ _ _) rfl 3 (by decide) (hts _ tw_fl_D_91) rfl rfl dd_D_state_31 ?_
      exact W.iret hx hb hr (fun tt htt hWW => ⟨_, rfl, (by rw [hq2]; rw [cs_st, if_neg (by rw [h17]; decide)]; rfl), htt⟩) (fun _ h => by cases h) dd_D_state_34
    · refine lv_aload_n hx hb dd_D_state_20 rfl (lv_at hl 0 rfl) ?_
      refine cw_get1 (k := 20 + a2) (C := rn_B) (T := ft_B) (NF := 11) (v := .int (nI (M (20 + a2) 3))) hx hb hts tw_fs_B hown hK hP (hks.2.2 _ hl2) (cw_CB _ ad ca _ _ _ _) rfl 3 (by decide) (hts _ tw_fl_D_91) rfl rfl dd_D_state_21 ?_
      refine lv_bipush (v := nI 8) hx hb dd_D_state_24 (by decide) ?_
      refine lv_iadd hx hb dd_D_state_26 ?_
      rw [nI_add]
      refine lv_goto (tgt := 34) hx hb dd_D_state_27 rfl ?_
      exact W.iret hx hb hr (fun tt htt hWW => ⟨_, rfl, (by rw [hq2]; rw [cs_st, if_pos h17]), htt⟩) (fun _ h => by cases h) dd_D_state_34

set_option maxHeartbeats 4000000 in
set_option maxRecDepth 100000 in
theorem cc_D_mayStart_n (l : Launch) (D : va_G) (ks : List Nat) (ad : Nat → Nat) (ca : Nat → ClassId) (M : sp_N) (X : sp_B) (F : sp_O) (G : sp_Z) (N : sp_N) (O : sp_O) (B : sp_B) (hC : cl_S M X F N O B) (hks : cl_k ks N) (hMB : cl_B M)  : Met l my_D_mayStart (Cond.code my_D_mayStart cd_D_mayStart 2 (some .boolean) :: bg_tbl) ({ frames := 0, cells := 0, slots := 0, locals := 0 }) (va_Pc [.ref (ad 0), .null] (cw_U D ks ad ca M X F G)) (vp_Si (fun r => r = bd_b false)) 0 0 (fun _ => False) := by
  refine Met.ofW (cc := cd_D_mayStart) (maxL := 2) (ret := (some .boolean)) (by decide) rfl ?_
  intro p e s m args below meth c s₁ BB hml hv
  obtain ⟨rfl, hP, hK⟩ := hv
  have hx := BB.exec
  have hb := BB.bytes
  have hr := BB.returns
  have hts : ∀ w ∈ bg_tbl, w.before ([.ref (ad 0), .null] : List Value).toArray s = true := fun w h => atoms_spec (ws := (Cond.code my_D_mayStart cd_D_mayStart 2 (some .boolean) :: bg_tbl)) BB.pre w (List.mem_cons_of_mem _ h)
  have hown : s.vm.findClass rn_D = some m.cls := findClass_of_methodNamed BB.named
  have hlocks := BB.notSynchronized
  have h12 := cl_12 hC
  have h160 := cl_160 hC
  have h3q := cl_3 hC
  have hM4 := cl_M4 hC
  have hM5 := cl_M5 hC
  have hl := lv_entry ([.ref (ad 0), .null]) (n := 2) (Nat.le_of_ble_eq_true rfl)
  rw [lg_entry_eq]
  generalize (lg_sl ([.ref (ad 0), .null]) ++ List.replicate (2 - (lg_sl ([.ref (ad 0), .null])).length) Slot.unset).toArray = ls at hl ⊢
  have hl : lv_has ls 2 [(0, .ref (ad 0)), (1, .null)] := hl
  refine lv_aload_nN hx hb dd_D_mayStart_0 rfl (lv_at hl 1 rfl) ?_
  refine lv_ifnullN (tgt := 11) hx hb dd_D_mayStart_1 rfl ?_
  refine lv_iconst (v := bd_b false) hx hb dd_D_mayStart_11 (by decide) ?_
  exact W.zret (ty := .boolean) hx hb hr (bd_b_nar _) (fun tt htt hWW => ⟨_, rfl, rfl, htt⟩) (fun _ h => by cases h) dd_D_mayStart_12

set_option maxHeartbeats 4000000 in
set_option maxRecDepth 100000 in
theorem cc_D_mayStart (l : Launch) (D : va_G) (ks : List Nat) (ad : Nat → Nat) (ca : Nat → ClassId) (M : sp_N) (X : sp_B) (F : sp_O) (G : sp_Z) (N : sp_N) (O : sp_O) (B : sp_B) (hC : cl_S M X F N O B) (hks : cl_k ks N) (hMB : cl_B M) (hJ : cw_J ks ad) (t : Nat) (ht : t < N 6 0) : Met l my_D_mayStart (Cond.code my_D_mayStart cd_D_mayStart 2 (some .boolean) :: bg_tbl) ({ frames := 3, cells := 0, slots := 0, locals := 61 }) (va_Pc [.ref (ad 0), .ref (ad (20 + t))] (cw_U D ks ad ca M X F G)) (vp_Si (fun r => r = bd_b (cs_ms M X F N t))) 0 0 (fun _ => False) := by
  refine Met.ofW (cc := cd_D_mayStart) (maxL := 2) (ret := (some .boolean)) (by decide) rfl ?_
  intro p e s m args below meth c s₁ BB hml hv
  obtain ⟨rfl, hP, hK⟩ := hv
  have hx := BB.exec
  have hb := BB.bytes
  have hr := BB.returns
  have hts : ∀ w ∈ bg_tbl, w.before ([.ref (ad 0), .ref (ad (20 + t))] : List Value).toArray s = true := fun w h => atoms_spec (ws := (Cond.code my_D_mayStart cd_D_mayStart 2 (some .boolean) :: bg_tbl)) BB.pre w (List.mem_cons_of_mem _ h)
  have hown : s.vm.findClass rn_D = some m.cls := findClass_of_methodNamed BB.named
  have hlocks := BB.notSynchronized
  have h12 := cl_12 hC
  have h160 := cl_160 hC
  have h3q := cl_3 hC
  have hM4 := cl_M4 hC
  have hM5 := cl_M5 hC
  have hl := lv_entry ([.ref (ad 0), .ref (ad (20 + t))]) (n := 2) (Nat.le_of_ble_eq_true rfl)
  rw [lg_entry_eq]
  generalize (lg_sl ([.ref (ad 0), .ref (ad (20 + t))]) ++ List.replicate (2 - (lg_sl ([.ref (ad 0), .ref (ad (20 + t))])).length) Slot.unset).toArray = ls at hl ⊢
  have hl : lv_has ls 2 [(0, .ref (ad 0)), (1, .ref (ad (20 + t)))] := hl
  refine lv_aload_n hx hb dd_D_mayStart_0 rfl (lv_at hl 1 rfl) ?_
  refine lv_ifnull hx hb dd_D_mayStart_1 ?_
  refine lv_aload_n hx hb dd_D_mayStart_4 rfl (lv_at hl 1 rfl) ?_
  refine cw_calli (k := 20 + t) (C := rn_B) (T := ft_B) (NF := 11) (As := []) (rest := []) (v := bd_b (cs_in M X F N t)) ⟨hx, hb, hml, hown, hts⟩ (cc_B_isLetIn l D ks ad ca M X F G N O B hC hks hMB hJ t ht) (bg_cwV 0 hts tw_ml_D_207 tw_im_B_isLetIn tw_se_B_isLetIn tw_in_B tw_co_B_isLetIn rfl rfl th_B_isLetIn ⟨Nat.le_of_ble_eq_true rfl, Nat.le_of_ble_eq_true rfl⟩) hK hP (hks.2.2 _ ht) (cw_CB _ ad ca _ _ _ _) rfl rfl hl.1 rfl (Nat.le_of_ble_eq_true rfl) dd_D_mayStart_5 ⟨Nat.zero_le _, Nat.zero_le _⟩ ?_
  refine bq_zne (tgt := 13) hx hb dd_D_mayStart_8 rfl (fun h8 => ?_) (fun h8 => ?_)
  · refine lv_aload_n hx hb dd_D_mayStart_13 rfl (lv_at hl 1 rfl) ?_
    refine cw_get1 (k := 20 + t) (C := rn_B) (T := ft_B) (NF := 11) (v := .int (bd_b (X (20 + t) 4))) hx hb hts tw_fs_B hown hK hP (hks.2.2 _ ht) (cw_CB _ ad ca _ _ _ _) rfl 4 (by decide) (hts _ tw_fl_D_127) rfl rfl dd_D_mayStart_14 ?_
    refine bq_zne (tgt := 38) hx hb dd_D_mayStart_17 rfl (fun h17 => ?_) (fun h17 => ?_)
    · refine lv_iconst (v := bd_b true) hx hb dd_D_mayStart_38 (by decide) ?_
      refine lv_goto (tgt := 43) hx hb dd_D_mayStart_39 rfl ?_
      exact W.zret (ty := .boolean) hx hb hr (bd_b_nar _) (fun tt htt hWW => ⟨_, rfl, (by simp [cs_ms, h8, h17]), htt⟩) (fun _ h => by cases h) dd_D_mayStart_43
    · refine lv_aload_n hx hb dd_D_mayStart_20 rfl (lv_at hl 1 rfl) ?_
      refine cw_getr (k := 20 + t) (C := rn_B) (T := ft_B) (NF := 11) hx hb hts tw_fs_B hown hK hP (hks.2.2 _ ht) (cw_CB _ ad ca _ _ _ _) rfl 5 (by decide) (hts _ tw_fl_D_110) rfl rfl dd_D_mayStart_21 (fun h21 => ?_) (fun k9 h21 => ?_)
      · have ho9 := cl_cn hC ht h21
        refine lv_ifnonnullN hx hb dd_D_mayStart_24 ?_
        refine lv_aload_n hx hb dd_D_mayStart_27 rfl (lv_at hl 0 rfl) ?_
        refine cw_get1 (k := 0) (C := rn_D) (T := ft_D) (NF := 9) (v := .int (nI (M 0 6))) hx hb hts tw_fs_D hown hK hP (hks.1 0 (by decide)) (cw_C0 ad ca _ _ _ _) rfl 6 (by decide) (hts _ tw_fl_D_210) rfl rfl dd_D_mayStart_28 ?_
        refine lv_aload_n hx hb dd_D_mayStart_31 rfl (lv_at hl 0 rfl) ?_
        refine cw_get1 (k := 0) (C := rn_D) (T := ft_D) (NF := 9) (v := .int (nI (M 0 0))) hx hb hts tw_fs_D hown hK hP (hks.1 0 (by decide)) (cw_C0 ad ca _ _ _ _) rfl 0 (by decide) (hts _ tw_fl_D_18) rfl rfl dd_D_mayStart_32 ?_
        refine bq_ge (tgt := 42) hx hb (hMB _ _) (hMB _ _) dd_D_mayStart_35 rfl (fun h35 => ?_) (fun h35 => ?_)
        · refine lv_iconst (v := bd_b false) hx hb dd_D_mayStart_42 (by decide) ?_
          exact W.zret (ty := .boolean) hx hb hr (bd_b_nar _) (fun tt htt hWW => ⟨_, rfl, (by simp [cs_ms, h8, h17, h21, ho9, h35, Nat.not_lt.mpr h35]), htt⟩) (fun _ h => by cases h) dd_D_mayStart_43
        · refine lv_iconst (v := bd_b true) hx hb dd_D_mayStart_38 (by decide) ?_
          refine lv_goto (tgt := 43) hx hb dd_D_mayStart_39 rfl ?_
          exact W.zret (ty := .boolean) hx hb hr (bd_b_nar _) (fun tt htt hWW => ⟨_, rfl, (by simp [cs_ms, h8, h17, h21, ho9, h35, Nat.not_le.mpr h35]), htt⟩) (fun _ h => by cases h) dd_D_mayStart_43
      · obtain ⟨cc9, hcc9, hclt, rfl⟩ := cl_cs hC ht h21
        refine lv_ifnonnull (tgt := 38) hx hb dd_D_mayStart_24 rfl ?_
        refine lv_iconst (v := bd_b true) hx hb dd_D_mayStart_38 (by decide) ?_
        refine lv_goto (tgt := 43) hx hb dd_D_mayStart_39 rfl ?_
        exact W.zret (ty := .boolean) hx hb hr (bd_b_nar _) (fun tt htt hWW => ⟨_, rfl, (by simp [cs_ms, h8, h17, h21, hcc9]), htt⟩) (fun _ h => by cases h) dd_D_mayStart_43
  · refine lv_iconst (v := bd_b false) hx hb dd_D_mayStart_11 (by decide) ?_
    exact W.zret (ty := .boolean) hx hb hr (bd_b_nar _) (fun tt htt hWW => ⟨_, rfl, (by simp [cs_ms, h8]), htt⟩) (fun _ h => by cases h) dd_D_mayStart_12

set_option maxHeartbeats 4000000 in
set_option maxRecDepth 100000 in
theorem cc_D_ready (l : Launch) (D : va_G) (ks : List Nat) (ad : Nat → Nat) (ca : Nat → ClassId) (M : sp_N) (X : sp_B) (F : sp_O) (G : sp_Z) (N : sp_N) (O : sp_O) (B : sp_B) (hC : cl_S M X F N O B) (hks : cl_k ks N) (hMB : cl_B M) (hJ : cw_J ks ad) : Met l my_D_ready (Cond.code my_D_ready cd_D_ready 3 (some .int) :: bg_tbl) ({ frames := 4, cells := 0, slots := 0, locals := 82 }) (va_Pc [.ref (ad 0)] (cw_U D ks ad ca M X F G)) (vp_Si (fun r => r = nI (cs_y M X F N))) 0 0 (fun _ => False) := by
  refine Met.ofW (cc := cd_D_ready) (maxL := 3) (ret := (some .int)) (by decide) rfl ?_
  intro p e s m args below meth c s₁ BB hml hv
  obtain ⟨rfl, hP, hK⟩ := hv
  have hx := BB.exec
  have hb := BB.bytes
  have hr := BB.returns
  have hts : ∀ w ∈ bg_tbl, w.before ([.ref (ad 0)] : List Value).toArray s = true := fun w h => atoms_spec (ws := (Cond.code my_D_ready cd_D_ready 3 (some .int) :: bg_tbl)) BB.pre w (List.mem_cons_of_mem _ h)
  have hown : s.vm.findClass rn_D = some m.cls := findClass_of_methodNamed BB.named
  have hlocks := BB.notSynchronized
  have h12 := cl_12 hC
  have h160 := cl_160 hC
  have h3q := cl_3 hC
  have hM4 := cl_M4 hC
  have hM5 := cl_M5 hC
  have hl := lv_entry ([.ref (ad 0)]) (n := 3) (Nat.le_of_ble_eq_true rfl)
  rw [lg_entry_eq]
  generalize (lg_sl ([.ref (ad 0)]) ++ List.replicate (3 - (lg_sl ([.ref (ad 0)])).length) Slot.unset).toArray = ls at hl ⊢
  have hl : lv_has ls 3 [(0, .ref (ad 0))] := hl
  have lp : ∀ (n : Nat) (i : Nat) (ls : Array Slot), (n + i = N 1 0) →  lv_has ls 3 [(0, .ref (ad 0)), (1, .int (nI (sp_c (fun i => cs_mo M X F N (cs_f F i)) i))), (2, .int (nI i))] → W p l e (headSpec (Cond.code my_D_ready cd_D_ready 3 (some .int) :: bg_tbl) ({ frames := 4, cells := 0, slots := 0, locals := 82 })).room s m ([.ref (ad 0)] : List Value).toArray below meth c s.heap [] 0 0 (MQ below (vp_Si (fun r => r = nI (cs_y M X F N))) ([.ref (ad 0)] : List Value).toArray s 0 0 (fun _ => False)) (F0 m 4 ls []) := by
    intro n
    induction n with
    | zero =>
      intro i ls hk hl
      refine lv_iload_n hx hb dd_D_ready_4 rfl (lv_at hl 2 rfl) ?_
      refine lv_aload_n hx hb dd_D_ready_5 rfl (lv_at hl 0 rfl) ?_
      refine cw_get1 (k := 0) (C := rn_D) (T := ft_D) (NF := 9) (v := .int (nI (M 0 4))) hx hb hts tw_fs_D hown hK hP (hks.1 0 (by decide)) (cw_C0 ad ca _ _ _ _) rfl 4 (by decide) (hts _ tw_fl_D_43) rfl rfl dd_D_ready_6 ?_
      refine bq_ge (tgt := 37) hx hb (by omega) (hMB _ _) dd_D_ready_9 rfl (fun h9 => ?_) (fun h9 => ?_)
      · refine lv_iload_n hx hb dd_D_ready_37 rfl (lv_at hl 1 rfl) ?_
        exact W.iret hx hb hr (fun tt htt hWW => ⟨_, rfl, (by rw [show i = N 1 0 by omega]; rfl), htt⟩) (fun _ h => by cases h) dd_D_ready_38
      · exact absurd h9 (by omega)
    | succ n ih =>
      intro i ls hk hl
      refine lv_iload_n hx hb dd_D_ready_4 rfl (lv_at hl 2 rfl) ?_
      refine lv_aload_n hx hb dd_D_ready_5 rfl (lv_at hl 0 rfl) ?_
      refine cw_get1 (k := 0) (C := rn_D) (T := ft_D) (NF := 9) (v := .int (nI (M 0 4))) hx hb hts tw_fs_D hown hK hP (hks.1 0 (by decide)) (cw_C0 ad ca _ _ _ _) rfl 4 (by decide) (hts _ tw_fl_D_43) rfl rfl dd_D_ready_6 ?_
      refine bq_ge (tgt := 37) hx hb (by omega) (hMB _ _) dd_D_ready_9 rfl (fun h9 => ?_) (fun h9 => ?_)
      · exact absurd h9 (by omega)
      · refine lv_aload_n hx hb dd_D_ready_12 rfl (lv_at hl 0 rfl) ?_
        refine lv_aload_n hx hb dd_D_ready_13 rfl (lv_at hl 0 rfl) ?_
        refine cw_getk (k := 0) (C := rn_D) (T := ft_D) (NF := 9) hx hb hts tw_fs_D hown hK hP (hks.1 0 (by decide)) (cw_C0 ad ca _ _ _ _) rfl 1 (by decide) (hts _ tw_fl_D_24) rfl rfl (cl_F1 hC) dd_D_ready_14 ?_
        refine lv_iload_n hx hb dd_D_ready_17 rfl (lv_at hl 2 rfl) ?_
        refine cw_aalk (k := 1) (t0 := 0) hx hb hK hP (hks.1 1 (by decide)) (by decide) (by decide) rfl (j := i) (Nat.lt_of_lt_of_le (by omega) (cl_12 hC)) (cl_q hC (by omega)) dd_D_ready_18 ?_
        refine cw_getr (k := 8 + i) (C := rn_Q) (T := ft_Q) (NF := 10) hx hb hts tw_fs_Q hown hK hP (hks.2.1 _ (by omega)) (cw_CQ (Nat.lt_of_lt_of_le (by omega) (cl_12 hC)) ad ca _ _ _ _) rfl 4 (by decide) (hts _ tw_fl_D_174) rfl rfl dd_D_ready_19 (fun h19 => ?_) (fun k9 h19 => ?_)
        · skip
          refine cw_calli (k := 0) (C := rn_D) (T := ft_D) (NF := 9) (As := [.null]) (rest := []) (v := bd_b false) ⟨hx, hb, hml, hown, hts⟩ (cc_D_mayStart_n l D ks ad ca M X F G N O B hC hks hMB) (bg_cwV 1 hts tw_ml_D_177 tw_im_D_mayStart tw_se_D_mayStart tw_in_D tw_co_D_mayStart rfl rfl th_D_mayStart ⟨Nat.le_of_ble_eq_true rfl, Nat.le_of_ble_eq_true rfl⟩) hK hP (hks.1 0 (by decide)) (cw_C0 ad ca _ _ _ _) rfl rfl hl.1 rfl (Nat.le_of_ble_eq_true rfl) dd_D_ready_22 ⟨Nat.zero_le _, Nat.zero_le _⟩ ?_
          refine bq_zeq (tgt := 31) hx hb dd_D_ready_25 rfl (fun h25 => ?_) (fun h25 => ?_)
          · refine lv_iinc (k := 2) (v := nI (i + 1)) hx hb dd_D_ready_31 hl rfl (nI_1 _) (by decide) rfl (fun ls hl => ?_)
            have hl : lv_has ls 3 [(2, .int (nI (i + 1))), (0, .ref (ad 0)), (1, .int (nI (sp_c (fun i => cs_mo M X F N (cs_f F i)) i)))] := hl
            refine lv_goto (tgt := 4) hx hb dd_D_ready_34 rfl ?_
            have e9 : sp_c (fun i => cs_mo M X F N (cs_f F i)) (i + 1) = sp_c (fun i => cs_mo M X F N (cs_f F i)) i := by simp [sp_c, cs_mo, cs_f, h9, Nat.not_le.mpr h9, h19, h25]
            exact ih (i + 1) ls (by omega) (by rw [e9]; exact lv_sub hl [1, 2, 0] rfl)
          · cases h25
        · obtain ⟨tf, htf, rfl⟩ := cl_fs hC (by omega) h19
          refine cw_calli (k := 0) (C := rn_D) (T := ft_D) (NF := 9) (As := [.ref (ad (20 + tf))]) (rest := []) (v := bd_b (cs_ms M X F N tf)) ⟨hx, hb, hml, hown, hts⟩ (cc_D_mayStart l D ks ad ca M X F G N O B hC hks hMB hJ tf htf) (bg_cwV 1 hts tw_ml_D_177 tw_im_D_mayStart tw_se_D_mayStart tw_in_D tw_co_D_mayStart rfl rfl th_D_mayStart ⟨Nat.le_of_ble_eq_true rfl, Nat.le_of_ble_eq_true rfl⟩) hK hP (hks.1 0 (by decide)) (cw_C0 ad ca _ _ _ _) rfl rfl hl.1 rfl (Nat.le_of_ble_eq_true rfl) dd_D_ready_22 ⟨Nat.zero_le _, Nat.zero_le _⟩ ?_
          refine bq_zeq (tgt := 31) hx hb dd_D_ready_25 rfl (fun h25 => ?_) (fun h25 => ?_)
          · refine lv_iinc (k := 2) (v := nI (i + 1)) hx hb dd_D_ready_31 hl rfl (nI_1 _) (by decide) rfl (fun ls hl => ?_)
            have hl : lv_has ls 3 [(2, .int (nI (i + 1))), (0, .ref (ad 0)), (1, .int (nI (sp_c (fun i => cs_mo M X F N (cs_f F i)) i)))] := hl
            refine lv_goto (tgt := 4) hx hb dd_D_ready_34 rfl ?_
            have e9 : sp_c (fun i => cs_mo M X F N (cs_f F i)) (i + 1) = sp_c (fun i => cs_mo M X F N (cs_f F i)) i := by simp [sp_c, cs_mo, cs_f, h9, Nat.not_le.mpr h9, h19, h25]
            exact ih (i + 1) ls (by omega) (by rw [e9]; exact lv_sub hl [1, 2, 0] rfl)
          · refine lv_iinc (k := 1) (v := nI ((sp_c (fun i => cs_mo M X F N (cs_f F i)) i) + 1)) hx hb dd_D_ready_28 hl rfl (nI_1 _) (by decide) rfl (fun ls hl => ?_)
            have hl : lv_has ls 3 [(1, .int (nI ((sp_c (fun i => cs_mo M X F N (cs_f F i)) i) + 1))), (0, .ref (ad 0)), (2, .int (nI i))] := hl
            refine lv_iinc (k := 2) (v := nI (i + 1)) hx hb dd_D_ready_31 hl rfl (nI_1 _) (by decide) rfl (fun ls hl => ?_)
            have hl : lv_has ls 3 [(2, .int (nI (i + 1))), (1, .int (nI ((sp_c (fun i => cs_mo M X F N (cs_f F i)) i) + 1))), (0, .ref (ad 0))] := hl
            refine lv_goto (tgt := 4) hx hb dd_D_ready_34 rfl ?_
            have e9 : sp_c (fun i => cs_mo M X F N (cs_f F i)) (i + 1) = (sp_c (fun i => cs_mo M X F N (cs_f F i)) i) + 1 := by simp [sp_c, cs_mo, cs_f, h9, Nat.not_le.mpr h9, h19, h25]
            exact ih (i + 1) ls (by omega) (by rw [e9]; exact lv_sub hl [2, 1, 0] rfl)
  refine lv_iconst (v := nI 0) hx hb dd_D_ready_0 (by decide) ?_
  refine lv_istore_n hx hb dd_D_ready_1 rfl hl (by decide) rfl (fun ls hl => ?_)
  have hl : lv_has ls 3 [(1, .int (nI 0)), (0, .ref (ad 0))] := hl
  refine lv_iconst (v := nI 0) hx hb dd_D_ready_2 (by decide) ?_
  refine lv_istore_n hx hb dd_D_ready_3 rfl hl (by decide) rfl (fun ls hl => ?_)
  have hl : lv_has ls 3 [(2, .int (nI 0)), (1, .int (nI 0)), (0, .ref (ad 0))] := hl
  exact lp (N 1 0) 0 ls (by omega) (lv_sub hl [2, 1, 0] rfl)

set_option maxHeartbeats 4000000 in
set_option maxRecDepth 100000 in
theorem cc_D_choose (l : Launch) (D : va_G) (ks : List Nat) (ad : Nat → Nat) (ca : Nat → ClassId) (M : sp_N) (X : sp_B) (F : sp_O) (G : sp_Z) (N : sp_N) (O : sp_O) (B : sp_B) (hC : cl_S M X F N O B) (hks : cl_k ks N) (hMB : cl_B M) (hJ : cw_J ks ad) : Met l my_D_choose (Cond.code my_D_choose cd_D_choose 4 (some (.object "BarrierDispatch$Block")) :: bg_tbl) ({ frames := 4, cells := 0, slots := 0, locals := 82 }) (va_Pc [.ref (ad 0)] (cw_U D ks ad ca M X F G)) (va_Sq (fun r => r = ((cs_h M X F N (N 1 0)).map (fun t => 20 + t)).map ad)) 0 0 (fun _ => False) := by
  refine Met.ofW (cc := cd_D_choose) (maxL := 4) (ret := (some (.object "BarrierDispatch$Block"))) (by decide) rfl ?_
  intro p e s m args below meth c s₁ BB hml hv
  obtain ⟨rfl, hP, hK⟩ := hv
  have hx := BB.exec
  have hb := BB.bytes
  have hr := BB.returns
  have hts : ∀ w ∈ bg_tbl, w.before ([.ref (ad 0)] : List Value).toArray s = true := fun w h => atoms_spec (ws := (Cond.code my_D_choose cd_D_choose 4 (some (.object "BarrierDispatch$Block")) :: bg_tbl)) BB.pre w (List.mem_cons_of_mem _ h)
  have hown : s.vm.findClass rn_D = some m.cls := findClass_of_methodNamed BB.named
  have hlocks := BB.notSynchronized
  have h12 := cl_12 hC
  have h160 := cl_160 hC
  have h3q := cl_3 hC
  have hM4 := cl_M4 hC
  have hM5 := cl_M5 hC
  have hl := lv_entry ([.ref (ad 0)]) (n := 4) (Nat.le_of_ble_eq_true rfl)
  rw [lg_entry_eq]
  generalize (lg_sl ([.ref (ad 0)]) ++ List.replicate (4 - (lg_sl ([.ref (ad 0)])).length) Slot.unset).toArray = ls at hl ⊢
  have hl : lv_has ls 4 [(0, .ref (ad 0))] := hl
  have lp : ∀ (n : Nat) (i : Nat) (o : Option Nat) (ls : Array Slot), (n + i = N 1 0) → (o = cs_h M X F N i) → (∀ z, o = some z → z < N 6 0) →  lv_has ls 4 [(0, .ref (ad 0)), (1, va_rf (o.map (fun b => ad (20 + b)))), (2, .int (nI i))] → W p l e (headSpec (Cond.code my_D_choose cd_D_choose 4 (some (.object "BarrierDispatch$Block")) :: bg_tbl) ({ frames := 4, cells := 0, slots := 0, locals := 82 })).room s m ([.ref (ad 0)] : List Value).toArray below meth c s.heap [] 0 0 (MQ below (va_Sq (fun r => r = ((cs_h M X F N (N 1 0)).map (fun t => 20 + t)).map ad)) ([.ref (ad 0)] : List Value).toArray s 0 0 (fun _ => False)) (F0 m 4 ls []) := by
    intro n
    induction n with
    | zero =>
      intro i o ls hk he ho9 hl
      cases o with
      | none =>
        have hl : lv_has ls 4 [(0, .ref (ad 0)), (1, .null), (2, .int (nI i))] := hl
        refine lv_iload_n hx hb dd_D_choose_4 rfl (lv_at hl 2 rfl) ?_
        refine lv_aload_n hx hb dd_D_choose_5 rfl (lv_at hl 0 rfl) ?_
        refine cw_get1 (k := 0) (C := rn_D) (T := ft_D) (NF := 9) (v := .int (nI (M 0 4))) hx hb hts tw_fs_D hown hK hP (hks.1 0 (by decide)) (cw_C0 ad ca _ _ _ _) rfl 4 (by decide) (hts _ tw_fl_D_43) rfl rfl dd_D_choose_6 ?_
        refine bq_ge (tgt := 50) hx hb (by omega) (hMB _ _) dd_D_choose_9 rfl (fun h9 => ?_) (fun h9 => ?_)
        · refine lv_aload_nN hx hb dd_D_choose_50 rfl (lv_at hl 1 rfl) ?_
          exact W.aret hx hb hr (Or.inl ⟨_, rfl⟩) (Or.inl rfl) (fun tt htt hWW => ⟨none, rfl, (by rw [show N 1 0 = i by omega, ← he]; rfl), htt⟩) (fun _ h => by cases h) dd_D_choose_51
        · exact absurd h9 (by omega)
      | some b =>
        have hl : lv_has ls 4 [(0, .ref (ad 0)), (1, .ref (ad (20 + b))), (2, .int (nI i))] := hl
        have hbl := ho9 b rfl
        refine lv_iload_n hx hb dd_D_choose_4 rfl (lv_at hl 2 rfl) ?_
        refine lv_aload_n hx hb dd_D_choose_5 rfl (lv_at hl 0 rfl) ?_
        refine cw_get1 (k := 0) (C := rn_D) (T := ft_D) (NF := 9) (v := .int (nI (M 0 4))) hx hb hts tw_fs_D hown hK hP (hks.1 0 (by decide)) (cw_C0 ad ca _ _ _ _) rfl 4 (by decide) (hts _ tw_fl_D_43) rfl rfl dd_D_choose_6 ?_
        refine bq_ge (tgt := 50) hx hb (by omega) (hMB _ _) dd_D_choose_9 rfl (fun h9 => ?_) (fun h9 => ?_)
        · refine lv_aload_n hx hb dd_D_choose_50 rfl (lv_at hl 1 rfl) ?_
          exact W.aret hx hb hr (Or.inl ⟨_, rfl⟩) (Or.inr ⟨_, rfl⟩) (fun tt htt hWW => ⟨some (ad (20 + b)), rfl, (by rw [show N 1 0 = i by omega, ← he]; rfl), htt⟩) (fun _ h => by cases h) dd_D_choose_51
        · exact absurd h9 (by omega)
    | succ n ih =>
      intro i o ls hk he ho9 hl
      cases o with
      | none =>
        have hl : lv_has ls 4 [(0, .ref (ad 0)), (1, .null), (2, .int (nI i))] := hl
        refine lv_iload_n hx hb dd_D_choose_4 rfl (lv_at hl 2 rfl) ?_
        refine lv_aload_n hx hb dd_D_choose_5 rfl (lv_at hl 0 rfl) ?_
        refine cw_get1 (k := 0) (C := rn_D) (T := ft_D) (NF := 9) (v := .int (nI (M 0 4))) hx hb hts tw_fs_D hown hK hP (hks.1 0 (by decide)) (cw_C0 ad ca _ _ _ _) rfl 4 (by decide) (hts _ tw_fl_D_43) rfl rfl dd_D_choose_6 ?_
        refine bq_ge (tgt := 50) hx hb (by omega) (hMB _ _) dd_D_choose_9 rfl (fun h9 => ?_) (fun h9 => ?_)
        · exact absurd h9 (by omega)
        · refine lv_aload_n hx hb dd_D_choose_12 rfl (lv_at hl 0 rfl) ?_
          refine cw_getk (k := 0) (C := rn_D) (T := ft_D) (NF := 9) hx hb hts tw_fs_D hown hK hP (hks.1 0 (by decide)) (cw_C0 ad ca _ _ _ _) rfl 1 (by decide) (hts _ tw_fl_D_24) rfl rfl (cl_F1 hC) dd_D_choose_13 ?_
          refine lv_iload_n hx hb dd_D_choose_16 rfl (lv_at hl 2 rfl) ?_
          refine cw_aalk (k := 1) (t0 := 0) hx hb hK hP (hks.1 1 (by decide)) (by decide) (by decide) rfl (j := i) (Nat.lt_of_lt_of_le (by omega) (cl_12 hC)) (cl_q hC (by omega)) dd_D_choose_17 ?_
          refine cw_getr (k := 8 + i) (C := rn_Q) (T := ft_Q) (NF := 10) hx hb hts tw_fs_Q hown hK hP (hks.2.1 _ (by omega)) (cw_CQ (Nat.lt_of_lt_of_le (by omega) (cl_12 hC)) ad ca _ _ _ _) rfl 4 (by decide) (hts _ tw_fl_D_174) rfl rfl dd_D_choose_18 (fun h18 => ?_) (fun k9 h18 => ?_)
          · skip
            refine lv_astore_nN hx hb dd_D_choose_21 rfl hl (by decide) rfl (fun ls hl => ?_)
            have hl : lv_has ls 4 [(3, .null), (0, .ref (ad 0)), (1, .null), (2, .int (nI i))] := hl
            refine lv_aload_n hx hb dd_D_choose_22 rfl (lv_at hl 1 rfl) ?_
            refine lv_aload_nN hx hb dd_D_choose_23 rfl (lv_at hl 0 rfl) ?_
            refine cw_calli (k := 0) (C := rn_D) (T := ft_D) (NF := 9) (As := [.null]) (rest := []) (v := bd_b false) ⟨hx, hb, hml, hown, hts⟩ (cc_D_mayStart_n l D ks ad ca M X F G N O B hC hks hMB) (bg_cwV 1 hts tw_ml_D_177 tw_im_D_mayStart tw_se_D_mayStart tw_in_D tw_co_D_mayStart rfl rfl th_D_mayStart ⟨Nat.le_of_ble_eq_true rfl, Nat.le_of_ble_eq_true rfl⟩) hK hP (hks.1 0 (by decide)) (cw_C0 ad ca _ _ _ _) rfl rfl hl.1 rfl (Nat.le_of_ble_eq_true rfl) dd_D_choose_24 ⟨Nat.zero_le _, Nat.zero_le _⟩ ?_
            refine bq_zeq (tgt := 44) hx hb dd_D_choose_27 rfl (fun h27 => ?_) (fun h27 => ?_)
            · refine lv_iinc (k := 3) (v := nI (i + 1)) hx hb dd_D_choose_44 hl rfl (nI_1 _) (by decide) rfl (fun ls hl => ?_)
              have hl : lv_has ls 4 [(2, .int (nI (i + 1))), (3, .null), (0, .ref (ad 0)), (1, .null)] := hl
              refine lv_goto (tgt := 4) hx hb dd_D_choose_47 rfl ?_
              exact ih (i + 1) (none) ls (by omega) (by rw [cs_h, ← he]; simp [cs_g, cs_f, cs_e, h9, Nat.not_le.mpr h9, h18, h27]) (by intro z hz; cases hz) (lv_sub hl [2, 3, 0] rfl)
            · cases h27
          · obtain ⟨tf, htf, rfl⟩ := cl_fs hC (by omega) h18
            refine lv_astore_n hx hb dd_D_choose_21 rfl hl (by decide) rfl (fun ls hl => ?_)
            have hl : lv_has ls 4 [(3, .ref (ad (20 + tf))), (0, .ref (ad 0)), (1, .null), (2, .int (nI i))] := hl
            refine lv_aload_n hx hb dd_D_choose_22 rfl (lv_at hl 1 rfl) ?_
            refine lv_aload_n hx hb dd_D_choose_23 rfl (lv_at hl 0 rfl) ?_
            refine cw_calli (k := 0) (C := rn_D) (T := ft_D) (NF := 9) (As := [.ref (ad (20 + tf))]) (rest := []) (v := bd_b (cs_ms M X F N tf)) ⟨hx, hb, hml, hown, hts⟩ (cc_D_mayStart l D ks ad ca M X F G N O B hC hks hMB hJ tf htf) (bg_cwV 1 hts tw_ml_D_177 tw_im_D_mayStart tw_se_D_mayStart tw_in_D tw_co_D_mayStart rfl rfl th_D_mayStart ⟨Nat.le_of_ble_eq_true rfl, Nat.le_of_ble_eq_true rfl⟩) hK hP (hks.1 0 (by decide)) (cw_C0 ad ca _ _ _ _) rfl rfl hl.1 rfl (Nat.le_of_ble_eq_true rfl) dd_D_choose_24 ⟨Nat.zero_le _, Nat.zero_le _⟩ ?_
            refine bq_zeq (tgt := 44) hx hb dd_D_choose_27 rfl (fun h27 => ?_) (fun h27 => ?_)
            · refine lv_iinc (k := 3) (v := nI (i + 1)) hx hb dd_D_choose_44 hl rfl (nI_1 _) (by decide) rfl (fun ls hl => ?_)
              have hl : lv_has ls 4 [(2, .int (nI (i + 1))), (3, .ref (ad (20 + tf))), (0, .ref (ad 0)), (1, .null)] := hl
              refine lv_goto (tgt := 4) hx hb dd_D_choose_47 rfl ?_
              exact ih (i + 1) (none) ls (by omega) (by rw [cs_h, ← he]; simp [cs_g, cs_f, cs_e, h9, Nat.not_le.mpr h9, h18, h27]) (by intro z hz; cases hz) (lv_sub hl [2, 3, 0] rfl)
            · refine lv_aload_nN hx hb dd_D_choose_30 rfl (lv_at hl 2 rfl) ?_
              refine lv_ifnullN (tgt := 42) hx hb dd_D_choose_31 rfl ?_
              refine lv_aload_n hx hb dd_D_choose_42 rfl (lv_at hl 0 rfl) ?_
              refine lv_astore_n hx hb dd_D_choose_43 rfl hl (by decide) rfl (fun ls hl => ?_)
              have hl : lv_has ls 4 [(1, .ref (ad (20 + tf))), (3, .ref (ad (20 + tf))), (0, .ref (ad 0)), (2, .int (nI i))] := hl
              refine lv_iinc (k := 3) (v := nI (i + 1)) hx hb dd_D_choose_44 hl rfl (nI_1 _) (by decide) rfl (fun ls hl => ?_)
              have hl : lv_has ls 4 [(2, .int (nI (i + 1))), (1, .ref (ad (20 + tf))), (3, .ref (ad (20 + tf))), (0, .ref (ad 0))] := hl
              refine lv_goto (tgt := 4) hx hb dd_D_choose_47 rfl ?_
              exact ih (i + 1) (some tf) ls (by omega) (by rw [cs_h, ← he]; simp [cs_g, cs_f, cs_e, h9, Nat.not_le.mpr h9, h18, h27]) (by intro z hz; cases hz; omega) (lv_sub hl [3, 1, 0] rfl)
      | some b =>
        have hl : lv_has ls 4 [(0, .ref (ad 0)), (1, .ref (ad (20 + b))), (2, .int (nI i))] := hl
        have hbl := ho9 b rfl
        refine lv_iload_n hx hb dd_D_choose_4 rfl (lv_at hl 2 rfl) ?_
        refine lv_aload_n hx hb dd_D_choose_5 rfl (lv_at hl 0 rfl) ?_
        refine cw_get1 (k := 0) (C := rn_D) (T := ft_D) (NF := 9) (v := .int (nI (M 0 4))) hx hb hts tw_fs_D hown hK hP (hks.1 0 (by decide)) (cw_C0 ad ca _ _ _ _) rfl 4 (by decide) (hts _ tw_fl_D_43) rfl rfl dd_D_choose_6 ?_
        refine bq_ge (tgt := 50) hx hb (by omega) (hMB _ _) dd_D_choose_9 rfl (fun h9 => ?_) (fun h9 => ?_)
        · exact absurd h9 (by omega)
        · refine lv_aload_n hx hb dd_D_choose_12 rfl (lv_at hl 0 rfl) ?_
          refine cw_getk (k := 0) (C := rn_D) (T := ft_D) (NF := 9) hx hb hts tw_fs_D hown hK hP (hks.1 0 (by decide)) (cw_C0 ad ca _ _ _ _) rfl 1 (by decide) (hts _ tw_fl_D_24) rfl rfl (cl_F1 hC) dd_D_choose_13 ?_
          refine lv_iload_n hx hb dd_D_choose_16 rfl (lv_at hl 2 rfl) ?_
          refine cw_aalk (k := 1) (t0 := 0) hx hb hK hP (hks.1 1 (by decide)) (by decide) (by decide) rfl (j := i) (Nat.lt_of_lt_of_le (by omega) (cl_12 hC)) (cl_q hC (by omega)) dd_D_choose_17 ?_
          refine cw_getr (k := 8 + i) (C := rn_Q) (T := ft_Q) (NF := 10) hx hb hts tw_fs_Q hown hK hP (hks.2.1 _ (by omega)) (cw_CQ (Nat.lt_of_lt_of_le (by omega) (cl_12 hC)) ad ca _ _ _ _) rfl 4 (by decide) (hts _ tw_fl_D_174) rfl rfl dd_D_choose_18 (fun h18 => ?_) (fun k9 h18 => ?_)
          · skip
            refine lv_astore_nN hx hb dd_D_choose_21 rfl hl (by decide) rfl (fun ls hl => ?_)
            have hl : lv_has ls 4 [(3, .null), (0, .ref (ad 0)), (1, .ref (ad (20 + b))), (2, .int (nI i))] := hl
            refine lv_aload_n hx hb dd_D_choose_22 rfl (lv_at hl 1 rfl) ?_
            refine lv_aload_nN hx hb dd_D_choose_23 rfl (lv_at hl 0 rfl) ?_
            refine cw_calli (k := 0) (C := rn_D) (T := ft_D) (NF := 9) (As := [.null]) (rest := []) (v := bd_b false) ⟨hx, hb, hml, hown, hts⟩ (cc_D_mayStart_n l D ks ad ca M X F G N O B hC hks hMB) (bg_cwV 1 hts tw_ml_D_177 tw_im_D_mayStart tw_se_D_mayStart tw_in_D tw_co_D_mayStart rfl rfl th_D_mayStart ⟨Nat.le_of_ble_eq_true rfl, Nat.le_of_ble_eq_true rfl⟩) hK hP (hks.1 0 (by decide)) (cw_C0 ad ca _ _ _ _) rfl rfl hl.1 rfl (Nat.le_of_ble_eq_true rfl) dd_D_choose_24 ⟨Nat.zero_le _, Nat.zero_le _⟩ ?_
            refine bq_zeq (tgt := 44) hx hb dd_D_choose_27 rfl (fun h27 => ?_) (fun h27 => ?_)
            · refine lv_iinc (k := 3) (v := nI (i + 1)) hx hb dd_D_choose_44 hl rfl (nI_1 _) (by decide) rfl (fun ls hl => ?_)
              have hl : lv_has ls 4 [(2, .int (nI (i + 1))), (3, .null), (0, .ref (ad 0)), (1, .ref (ad (20 + b)))] := hl
              refine lv_goto (tgt := 4) hx hb dd_D_choose_47 rfl ?_
              exact ih (i + 1) (some b) ls (by omega) (by rw [cs_h, ← he]; simp [cs_g, cs_f, cs_e, h9, Nat.not_le.mpr h9, h18, h27]) (by intro z hz; cases hz; omega) (lv_sub hl [2, 3, 0] rfl)
            · cases h27
          · obtain ⟨tf, htf, rfl⟩ := cl_fs hC (by omega) h18
            refine lv_astore_n hx hb dd_D_choose_21 rfl hl (by decide) rfl (fun ls hl => ?_)
            have hl : lv_has ls 4 [(3, .ref (ad (20 + tf))), (0, .ref (ad 0)), (1, .ref (ad (20 + b))), (2, .int (nI i))] := hl
            refine lv_aload_n hx hb dd_D_choose_22 rfl (lv_at hl 1 rfl) ?_
            refine lv_aload_n hx hb dd_D_choose_23 rfl (lv_at hl 0 rfl) ?_
            refine cw_calli (k := 0) (C := rn_D) (T := ft_D) (NF := 9) (As := [.ref (ad (20 + tf))]) (rest := []) (v := bd_b (cs_ms M X F N tf)) ⟨hx, hb, hml, hown, hts⟩ (cc_D_mayStart l D ks ad ca M X F G N O B hC hks hMB hJ tf htf) (bg_cwV 1 hts tw_ml_D_177 tw_im_D_mayStart tw_se_D_mayStart tw_in_D tw_co_D_mayStart rfl rfl th_D_mayStart ⟨Nat.le_of_ble_eq_true rfl, Nat.le_of_ble_eq_true rfl⟩) hK hP (hks.1 0 (by decide)) (cw_C0 ad ca _ _ _ _) rfl rfl hl.1 rfl (Nat.le_of_ble_eq_true rfl) dd_D_choose_24 ⟨Nat.zero_le _, Nat.zero_le _⟩ ?_
            refine bq_zeq (tgt := 44) hx hb dd_D_choose_27 rfl (fun h27 => ?_) (fun h27 => ?_)
            · refine lv_iinc (k := 3) (v := nI (i + 1)) hx hb dd_D_choose_44 hl rfl (nI_1 _) (by decide) rfl (fun ls hl => ?_)
              have hl : lv_has ls 4 [(2, .int (nI (i + 1))), (3, .ref (ad (20 + tf))), (0, .ref (ad 0)), (1, .ref (ad (20 + b)))] := hl
              refine lv_goto (tgt := 4) hx hb dd_D_choose_47 rfl ?_
              exact ih (i + 1) (some b) ls (by omega) (by rw [cs_h, ← he]; simp [cs_g, cs_f, cs_e, h9, Nat.not_le.mpr h9, h18, h27]) (by intro z hz; cases hz; omega) (lv_sub hl [2, 3, 0] rfl)
            · refine lv_aload_n hx hb dd_D_choose_30 rfl (lv_at hl 2 rfl) ?_
              refine lv_ifnull hx hb dd_D_choose_31 ?_
              refine lv_aload_n hx hb dd_D_choose_34 rfl (lv_at hl 0 rfl) ?_
              refine lv_aload_n hx hb dd_D_choose_35 rfl (lv_at hl 2 rfl) ?_
              refine cw_calli (k := 20 + tf) (C := rn_B) (T := ft_B) (NF := 11) (As := [.ref (ad (20 + b))]) (rest := []) (v := bd_b (cs_bf M N tf b)) ⟨hx, hb, hml, hown, hts⟩ (cc_B_goesBefore l D ks ad ca M X F G N O B hC hks hMB tf b htf (by omega)) (bg_cwV 1 hts tw_ml_D_204 tw_im_B_goesBefore tw_se_B_goesBefore tw_in_B tw_co_B_goesBefore rfl rfl th_B_goesBefore ⟨Nat.le_of_ble_eq_true rfl, Nat.le_of_ble_eq_true rfl⟩) hK hP (hks.2.2 _ htf) (cw_CB _ ad ca _ _ _ _) rfl rfl hl.1 rfl (Nat.le_of_ble_eq_true rfl) dd_D_choose_36 ⟨Nat.zero_le _, Nat.zero_le _⟩ ?_
              refine bq_zeq (tgt := 44) hx hb dd_D_choose_39 rfl (fun h39 => ?_) (fun h39 => ?_)
              · refine lv_iinc (k := 3) (v := nI (i + 1)) hx hb dd_D_choose_44 hl rfl (nI_1 _) (by decide) rfl (fun ls hl => ?_)
                have hl : lv_has ls 4 [(2, .int (nI (i + 1))), (3, .ref (ad (20 + tf))), (0, .ref (ad 0)), (1, .ref (ad (20 + b)))] := hl
                refine lv_goto (tgt := 4) hx hb dd_D_choose_47 rfl ?_
                exact ih (i + 1) (some b) ls (by omega) (by rw [cs_h, ← he]; simp [cs_g, cs_f, cs_e, h9, Nat.not_le.mpr h9, h18, h27, h39]) (by intro z hz; cases hz; omega) (lv_sub hl [2, 3, 0] rfl)
              · refine lv_aload_n hx hb dd_D_choose_42 rfl (lv_at hl 0 rfl) ?_
                refine lv_astore_n hx hb dd_D_choose_43 rfl hl (by decide) rfl (fun ls hl => ?_)
                have hl : lv_has ls 4 [(1, .ref (ad (20 + tf))), (3, .ref (ad (20 + tf))), (0, .ref (ad 0)), (2, .int (nI i))] := hl
                refine lv_iinc (k := 3) (v := nI (i + 1)) hx hb dd_D_choose_44 hl rfl (nI_1 _) (by decide) rfl (fun ls hl => ?_)
                have hl : lv_has ls 4 [(2, .int (nI (i + 1))), (1, .ref (ad (20 + tf))), (3, .ref (ad (20 + tf))), (0, .ref (ad 0))] := hl
                refine lv_goto (tgt := 4) hx hb dd_D_choose_47 rfl ?_
                exact ih (i + 1) (some tf) ls (by omega) (by rw [cs_h, ← he]; simp [cs_g, cs_f, cs_e, h9, Nat.not_le.mpr h9, h18, h27, h39]) (by intro z hz; cases hz; omega) (lv_sub hl [3, 1, 0] rfl)
  refine lv_null hx hb dd_D_choose_0 ?_
  refine lv_astore_nN hx hb dd_D_choose_1 rfl hl (by decide) rfl (fun ls hl => ?_)
  have hl : lv_has ls 4 [(1, .null), (0, .ref (ad 0))] := hl
  refine lv_iconst (v := nI 0) hx hb dd_D_choose_2 (by decide) ?_
  refine lv_istore_n hx hb dd_D_choose_3 rfl hl (by decide) rfl (fun ls hl => ?_)
  have hl : lv_has ls 4 [(2, .int (nI 0)), (1, .null), (0, .ref (ad 0))] := hl
  exact lp (N 1 0) 0 none ls (by omega) rfl (fun z hz => by cases hz) (lv_sub hl [2, 1, 0] rfl)

set_option maxHeartbeats 4000000 in
set_option maxRecDepth 100000 in
theorem cc_D_nextDue (l : Launch) (D : va_G) (ks : List Nat) (ad : Nat → Nat) (ca : Nat → ClassId) (M : sp_N) (X : sp_B) (F : sp_O) (G : sp_Z) (N : sp_N) (O : sp_O) (B : sp_B) (hC : cl_S M X F N O B) (hks : cl_k ks N) (hMB : cl_B M)  : Met l my_D_nextDue (Cond.code my_D_nextDue cd_D_nextDue 5 (some (.object "BarrierDispatch$Block")) :: bg_tbl) ({ frames := 0, cells := 0, slots := 0, locals := 0 }) (va_Pc [.ref (ad 0)] (cw_U D ks ad ca M X F G)) (va_Sq (fun r => r = ((cs_d M G (N 6 0)).map (fun t => 20 + t)).map ad)) 0 0 (fun _ => False) := by
  refine Met.ofW (cc := cd_D_nextDue) (maxL := 5) (ret := (some (.object "BarrierDispatch$Block"))) (by decide) rfl ?_
  intro p e s m args below meth c s₁ BB hml hv
  obtain ⟨rfl, hP, hK⟩ := hv
  have hx := BB.exec
  have hb := BB.bytes
  have hr := BB.returns
  have hts : ∀ w ∈ bg_tbl, w.before ([.ref (ad 0)] : List Value).toArray s = true := fun w h => atoms_spec (ws := (Cond.code my_D_nextDue cd_D_nextDue 5 (some (.object "BarrierDispatch$Block")) :: bg_tbl)) BB.pre w (List.mem_cons_of_mem _ h)
  have hown : s.vm.findClass rn_D = some m.cls := findClass_of_methodNamed BB.named
  have hlocks := BB.notSynchronized
  have h12 := cl_12 hC
  have h160 := cl_160 hC
  have h3q := cl_3 hC
  have hM4 := cl_M4 hC
  have hM5 := cl_M5 hC
  have hl := lv_entry ([.ref (ad 0)]) (n := 5) (Nat.le_of_ble_eq_true rfl)
  rw [lg_entry_eq]
  generalize (lg_sl ([.ref (ad 0)]) ++ List.replicate (5 - (lg_sl ([.ref (ad 0)])).length) Slot.unset).toArray = ls at hl ⊢
  have hl : lv_has ls 5 [(0, .ref (ad 0))] := hl
  have lp : ∀ (n : Nat) (i : Nat) (o : Option Nat) (ls : Array Slot), (n + i = N 6 0) → (o = cs_d M G i) → (∀ z, o = some z → z < N 6 0) →  lv_has ls 5 [(0, .ref (ad 0)), (1, va_rf (o.map (fun b => ad (20 + b)))), (2, .int (nI i))] → W p l e (headSpec (Cond.code my_D_nextDue cd_D_nextDue 5 (some (.object "BarrierDispatch$Block")) :: bg_tbl) ({ frames := 0, cells := 0, slots := 0, locals := 0 })).room s m ([.ref (ad 0)] : List Value).toArray below meth c s.heap [] 0 0 (MQ below (va_Sq (fun r => r = ((cs_d M G (N 6 0)).map (fun t => 20 + t)).map ad)) ([.ref (ad 0)] : List Value).toArray s 0 0 (fun _ => False)) (F0 m 4 ls []) := by
    intro n
    induction n with
    | zero =>
      intro i o ls hk he ho9 hl
      cases o with
      | none =>
        have hl : lv_has ls 5 [(0, .ref (ad 0)), (1, .null), (2, .int (nI i))] := hl
        refine lv_iload_n hx hb dd_D_nextDue_4 rfl (lv_at hl 2 rfl) ?_
        refine lv_aload_n hx hb dd_D_nextDue_5 rfl (lv_at hl 0 rfl) ?_
        refine cw_get1 (k := 0) (C := rn_D) (T := ft_D) (NF := 9) (v := .int (nI (M 0 5))) hx hb hts tw_fs_D hown hK hP (hks.1 0 (by decide)) (cw_C0 ad ca _ _ _ _) rfl 5 (by decide) (hts _ tw_fl_D_181) rfl rfl dd_D_nextDue_6 ?_
        refine bq_ge (tgt := 75) hx hb (by omega) (hMB _ _) dd_D_nextDue_9 rfl (fun h9 => ?_) (fun h9 => ?_)
        · refine lv_aload_nN hx hb dd_D_nextDue_75 rfl (lv_at hl 1 rfl) ?_
          exact W.aret hx hb hr (Or.inl ⟨_, rfl⟩) (Or.inl rfl) (fun tt htt hWW => ⟨none, rfl, (by rw [show N 6 0 = i by omega, ← he]; rfl), htt⟩) (fun _ h => by cases h) dd_D_nextDue_76
        · exact absurd h9 (by omega)
      | some b =>
        have hl : lv_has ls 5 [(0, .ref (ad 0)), (1, .ref (ad (20 + b))), (2, .int (nI i))] := hl
        have hbl := ho9 b rfl
        refine lv_iload_n hx hb dd_D_nextDue_4 rfl (lv_at hl 2 rfl) ?_
        refine lv_aload_n hx hb dd_D_nextDue_5 rfl (lv_at hl 0 rfl) ?_
        refine cw_get1 (k := 0) (C := rn_D) (T := ft_D) (NF := 9) (v := .int (nI (M 0 5))) hx hb hts tw_fs_D hown hK hP (hks.1 0 (by decide)) (cw_C0 ad ca _ _ _ _) rfl 5 (by decide) (hts _ tw_fl_D_181) rfl rfl dd_D_nextDue_6 ?_
        refine bq_ge (tgt := 75) hx hb (by omega) (hMB _ _) dd_D_nextDue_9 rfl (fun h9 => ?_) (fun h9 => ?_)
        · refine lv_aload_n hx hb dd_D_nextDue_75 rfl (lv_at hl 1 rfl) ?_
          exact W.aret hx hb hr (Or.inl ⟨_, rfl⟩) (Or.inr ⟨_, rfl⟩) (fun tt htt hWW => ⟨some (ad (20 + b)), rfl, (by rw [show N 6 0 = i by omega, ← he]; rfl), htt⟩) (fun _ h => by cases h) dd_D_nextDue_76
        · exact absurd h9 (by omega)
    | succ n ih =>
      intro i o ls hk he ho9 hl
      cases o with
      | none =>
        have hl : lv_has ls 5 [(0, .ref (ad 0)), (1, .null), (2, .int (nI i))] := hl
        refine lv_iload_n hx hb dd_D_nextDue_4 rfl (lv_at hl 2 rfl) ?_
        refine lv_aload_n hx hb dd_D_nextDue_5 rfl (lv_at hl 0 rfl) ?_
        refine cw_get1 (k := 0) (C := rn_D) (T := ft_D) (NF := 9) (v := .int (nI (M 0 5))) hx hb hts tw_fs_D hown hK hP (hks.1 0 (by decide)) (cw_C0 ad ca _ _ _ _) rfl 5 (by decide) (hts _ tw_fl_D_181) rfl rfl dd_D_nextDue_6 ?_
        refine bq_ge (tgt := 75) hx hb (by omega) (hMB _ _) dd_D_nextDue_9 rfl (fun h9 => ?_) (fun h9 => ?_)
        · exact absurd h9 (by omega)
        · refine lv_aload_n hx hb dd_D_nextDue_12 rfl (lv_at hl 0 rfl) ?_
          refine cw_getk (k := 0) (C := rn_D) (T := ft_D) (NF := 9) hx hb hts tw_fs_D hown hK hP (hks.1 0 (by decide)) (cw_C0 ad ca _ _ _ _) rfl 2 (by decide) (hts _ tw_fl_D_30) rfl rfl (cl_F2 hC) dd_D_nextDue_13 ?_
          refine lv_iload_n hx hb dd_D_nextDue_16 rfl (lv_at hl 2 rfl) ?_
          refine cw_aalk (k := 2) (t0 := 1) hx hb hK hP (hks.1 2 (by decide)) (by decide) (by decide) rfl (j := i) (Nat.lt_of_lt_of_le (by omega) (cl_160 hC)) (cl_b hC (by omega)) dd_D_nextDue_17 ?_
          refine lv_astore_n hx hb dd_D_nextDue_18 rfl hl (by decide) rfl (fun ls hl => ?_)
          have hl : lv_has ls 5 [(3, .ref (ad (20 + i))), (0, .ref (ad 0)), (1, .null), (2, .int (nI i))] := hl
          refine lv_aload_n hx hb dd_D_nextDue_19 rfl (lv_at hl 0 rfl) ?_
          refine cw_get1 (k := 20 + i) (C := rn_B) (T := ft_B) (NF := 11) (v := .int (nI (M (20 + i) 3))) hx hb hts tw_fs_B hown hK hP (hks.2.2 _ (by omega)) (cw_CB _ ad ca _ _ _ _) rfl 3 (by decide) (hts _ tw_fl_D_91) rfl rfl dd_D_nextDue_20 ?_
          refine lv_iconst (v := nI 1) hx hb dd_D_nextDue_23 (by decide) ?_
          refine bq_ne (tgt := 43) hx hb (hMB _ _) (by decide) dd_D_nextDue_24 rfl (fun h24 => ?_) (fun h24 => ?_)
          · refine lv_iconst (v := bd_b false) hx hb dd_D_nextDue_43 (by decide) ?_
            refine lv_istore hx hb dd_D_nextDue_44 hl (by decide) rfl (fun ls hl => ?_)
            have hl : lv_has ls 5 [(4, .int (bd_b false)), (3, .ref (ad (20 + i))), (0, .ref (ad 0)), (1, .null), (2, .int (nI i))] := hl
            refine lv_iload hx hb dd_D_nextDue_46 (lv_at hl 0 rfl) ?_
            refine bq_zeq (tgt := 69) hx hb dd_D_nextDue_48 rfl (fun h48 => ?_) (fun h48 => ?_)
            · refine lv_iinc (k := 4) (v := nI (i + 1)) hx hb dd_D_nextDue_69 hl rfl (nI_1 _) (by decide) rfl (fun ls hl => ?_)
              have hl : lv_has ls 5 [(2, .int (nI (i + 1))), (4, .int (bd_b false)), (3, .ref (ad (20 + i))), (0, .ref (ad 0)), (1, .null)] := hl
              refine lv_goto (tgt := 4) hx hb dd_D_nextDue_72 rfl ?_
              exact ih (i + 1) (none) ls (by omega) (by rw [cs_d, ← he]; simp [cs_i, h9, Nat.not_le.mpr h9, h24]) (by intro z hz; cases hz) (lv_sub hl [3, 4, 0] rfl)
            · cases h48
          · refine lv_aload_n hx hb dd_D_nextDue_27 rfl (lv_at hl 0 rfl) ?_
            refine cw_get1 (k := 20 + i) (C := rn_B) (T := ft_B) (NF := 11) (v := .long (G (20 + i) 8)) hx hb hts tw_fs_B hown hK hP (hks.2.2 _ (by omega)) (cw_CB _ ad ca _ _ _ _) rfl 8 (by decide) (hts _ tw_fl_D_98) rfl rfl dd_D_nextDue_28 ?_
            refine lv_aload_n hx hb dd_D_nextDue_31 rfl (lv_at hl 1 rfl) ?_
            refine cw_get1 (k := 0) (C := rn_D) (T := ft_D) (NF := 9) (v := .long (G 0 8)) hx hb hts tw_fs_D hown hK hP (hks.1 0 (by decide)) (cw_C0 ad ca _ _ _ _) rfl 8 (by decide) (hts _ tw_fl_D_159) rfl rfl dd_D_nextDue_32 ?_
            refine W.lcmp hx hb dd_D_nextDue_35 ?_
            refine bq_lgt (tgt := 43) hx hb dd_D_nextDue_36 rfl (fun h36 => ?_) (fun h36 => ?_)
            · refine lv_iconst (v := bd_b false) hx hb dd_D_nextDue_43 (by decide) ?_
              refine lv_istore hx hb dd_D_nextDue_44 hl (by decide) rfl (fun ls hl => ?_)
              have hl : lv_has ls 5 [(4, .int (bd_b false)), (3, .ref (ad (20 + i))), (0, .ref (ad 0)), (1, .null), (2, .int (nI i))] := hl
              refine lv_iload hx hb dd_D_nextDue_46 (lv_at hl 0 rfl) ?_
              refine bq_zeq (tgt := 69) hx hb dd_D_nextDue_48 rfl (fun h48 => ?_) (fun h48 => ?_)
              · refine lv_iinc (k := 4) (v := nI (i + 1)) hx hb dd_D_nextDue_69 hl rfl (nI_1 _) (by decide) rfl (fun ls hl => ?_)
                have hl : lv_has ls 5 [(2, .int (nI (i + 1))), (4, .int (bd_b false)), (3, .ref (ad (20 + i))), (0, .ref (ad 0)), (1, .null)] := hl
                refine lv_goto (tgt := 4) hx hb dd_D_nextDue_72 rfl ?_
                exact ih (i + 1) (none) ls (by omega) (by rw [cs_d, ← he]; simp [cs_i, h9, Nat.not_le.mpr h9, h24, Int64.not_le.mpr h36]) (by intro z hz; cases hz) (lv_sub hl [3, 4, 0] rfl)
              · cases h48
            · refine lv_iconst (v := bd_b true) hx hb dd_D_nextDue_39 (by decide) ?_
              refine lv_goto (tgt := 44) hx hb dd_D_nextDue_40 rfl ?_
              refine lv_istore hx hb dd_D_nextDue_44 hl (by decide) rfl (fun ls hl => ?_)
              have hl : lv_has ls 5 [(4, .int (bd_b true)), (3, .ref (ad (20 + i))), (0, .ref (ad 0)), (1, .null), (2, .int (nI i))] := hl
              refine lv_iload hx hb dd_D_nextDue_46 (lv_at hl 0 rfl) ?_
              refine bq_zeq (tgt := 69) hx hb dd_D_nextDue_48 rfl (fun h48 => ?_) (fun h48 => ?_)
              · cases h48
              · refine lv_aload_nN hx hb dd_D_nextDue_51 rfl (lv_at hl 3 rfl) ?_
                refine lv_ifnullN (tgt := 67) hx hb dd_D_nextDue_52 rfl ?_
                refine lv_aload_n hx hb dd_D_nextDue_67 rfl (lv_at hl 1 rfl) ?_
                refine lv_astore_n hx hb dd_D_nextDue_68 rfl hl (by decide) rfl (fun ls hl => ?_)
                have hl : lv_has ls 5 [(1, .ref (ad (20 + i))), (4, .int (bd_b true)), (3, .ref (ad (20 + i))), (0, .ref (ad 0)), (2, .int (nI i))] := hl
                refine lv_iinc (k := 4) (v := nI (i + 1)) hx hb dd_D_nextDue_69 hl rfl (nI_1 _) (by decide) rfl (fun ls hl => ?_)
                have hl : lv_has ls 5 [(2, .int (nI (i + 1))), (1, .ref (ad (20 + i))), (4, .int (bd_b true)), (3, .ref (ad (20 + i))), (0, .ref (ad 0))] := hl
                refine lv_goto (tgt := 4) hx hb dd_D_nextDue_72 rfl ?_
                exact ih (i + 1) (some i) ls (by omega) (by rw [cs_d, ← he]; simp [cs_i, h9, Nat.not_le.mpr h9, h24, h36]) (by intro z hz; cases hz; omega) (lv_sub hl [4, 1, 0] rfl)
      | some b =>
        have hl : lv_has ls 5 [(0, .ref (ad 0)), (1, .ref (ad (20 + b))), (2, .int (nI i))] := hl
        have hbl := ho9 b rfl
        refine lv_iload_n hx hb dd_D_nextDue_4 rfl (lv_at hl 2 rfl) ?_
        refine lv_aload_n hx hb dd_D_nextDue_5 rfl (lv_at hl 0 rfl) ?_
        refine cw_get1 (k := 0) (C := rn_D) (T := ft_D) (NF := 9) (v := .int (nI (M 0 5))) hx hb hts tw_fs_D hown hK hP (hks.1 0 (by decide)) (cw_C0 ad ca _ _ _ _) rfl 5 (by decide) (hts _ tw_fl_D_181) rfl rfl dd_D_nextDue_6 ?_
        refine bq_ge (tgt := 75) hx hb (by omega) (hMB _ _) dd_D_nextDue_9 rfl (fun h9 => ?_) (fun h9 => ?_)
        · exact absurd h9 (by omega)
        · refine lv_aload_n hx hb dd_D_nextDue_12 rfl (lv_at hl 0 rfl) ?_
          refine cw_getk (k := 0) (C := rn_D) (T := ft_D) (NF := 9) hx hb hts tw_fs_D hown hK hP (hks.1 0 (by decide)) (cw_C0 ad ca _ _ _ _) rfl 2 (by decide) (hts _ tw_fl_D_30) rfl rfl (cl_F2 hC) dd_D_nextDue_13 ?_
          refine lv_iload_n hx hb dd_D_nextDue_16 rfl (lv_at hl 2 rfl) ?_
          refine cw_aalk (k := 2) (t0 := 1) hx hb hK hP (hks.1 2 (by decide)) (by decide) (by decide) rfl (j := i) (Nat.lt_of_lt_of_le (by omega) (cl_160 hC)) (cl_b hC (by omega)) dd_D_nextDue_17 ?_
          refine lv_astore_n hx hb dd_D_nextDue_18 rfl hl (by decide) rfl (fun ls hl => ?_)
          have hl : lv_has ls 5 [(3, .ref (ad (20 + i))), (0, .ref (ad 0)), (1, .ref (ad (20 + b))), (2, .int (nI i))] := hl
          refine lv_aload_n hx hb dd_D_nextDue_19 rfl (lv_at hl 0 rfl) ?_
          refine cw_get1 (k := 20 + i) (C := rn_B) (T := ft_B) (NF := 11) (v := .int (nI (M (20 + i) 3))) hx hb hts tw_fs_B hown hK hP (hks.2.2 _ (by omega)) (cw_CB _ ad ca _ _ _ _) rfl 3 (by decide) (hts _ tw_fl_D_91) rfl rfl dd_D_nextDue_20 ?_
          refine lv_iconst (v := nI 1) hx hb dd_D_nextDue_23 (by decide) ?_
          refine bq_ne (tgt := 43) hx hb (hMB _ _) (by decide) dd_D_nextDue_24 rfl (fun h24 => ?_) (fun h24 => ?_)
          · refine lv_iconst (v := bd_b false) hx hb dd_D_nextDue_43 (by decide) ?_
            refine lv_istore hx hb dd_D_nextDue_44 hl (by decide) rfl (fun ls hl => ?_)
            have hl : lv_has ls 5 [(4, .int (bd_b false)), (3, .ref (ad (20 + i))), (0, .ref (ad 0)), (1, .ref (ad (20 + b))), (2, .int (nI i))] := hl
            refine lv_iload hx hb dd_D_nextDue_46 (lv_at hl 0 rfl) ?_
            refine bq_zeq (tgt := 69) hx hb dd_D_nextDue_48 rfl (fun h48 => ?_) (fun h48 => ?_)
            · refine lv_iinc (k := 4) (v := nI (i + 1)) hx hb dd_D_nextDue_69 hl rfl (nI_1 _) (by decide) rfl (fun ls hl => ?_)
              have hl : lv_has ls 5 [(2, .int (nI (i + 1))), (4, .int (bd_b false)), (3, .ref (ad (20 + i))), (0, .ref (ad 0)), (1, .ref (ad (20 + b)))] := hl
              refine lv_goto (tgt := 4) hx hb dd_D_nextDue_72 rfl ?_
              exact ih (i + 1) (some b) ls (by omega) (by rw [cs_d, ← he]; simp [cs_i, h9, Nat.not_le.mpr h9, h24]) (by intro z hz; cases hz; omega) (lv_sub hl [3, 4, 0] rfl)
            · cases h48
          · refine lv_aload_n hx hb dd_D_nextDue_27 rfl (lv_at hl 0 rfl) ?_
            refine cw_get1 (k := 20 + i) (C := rn_B) (T := ft_B) (NF := 11) (v := .long (G (20 + i) 8)) hx hb hts tw_fs_B hown hK hP (hks.2.2 _ (by omega)) (cw_CB _ ad ca _ _ _ _) rfl 8 (by decide) (hts _ tw_fl_D_98) rfl rfl dd_D_nextDue_28 ?_
            refine lv_aload_n hx hb dd_D_nextDue_31 rfl (lv_at hl 1 rfl) ?_
            refine cw_get1 (k := 0) (C := rn_D) (T := ft_D) (NF := 9) (v := .long (G 0 8)) hx hb hts tw_fs_D hown hK hP (hks.1 0 (by decide)) (cw_C0 ad ca _ _ _ _) rfl 8 (by decide) (hts _ tw_fl_D_159) rfl rfl dd_D_nextDue_32 ?_
            refine W.lcmp hx hb dd_D_nextDue_35 ?_
            refine bq_lgt (tgt := 43) hx hb dd_D_nextDue_36 rfl (fun h36 => ?_) (fun h36 => ?_)
            · refine lv_iconst (v := bd_b false) hx hb dd_D_nextDue_43 (by decide) ?_
              refine lv_istore hx hb dd_D_nextDue_44 hl (by decide) rfl (fun ls hl => ?_)
              have hl : lv_has ls 5 [(4, .int (bd_b false)), (3, .ref (ad (20 + i))), (0, .ref (ad 0)), (1, .ref (ad (20 + b))), (2, .int (nI i))] := hl
              refine lv_iload hx hb dd_D_nextDue_46 (lv_at hl 0 rfl) ?_
              refine bq_zeq (tgt := 69) hx hb dd_D_nextDue_48 rfl (fun h48 => ?_) (fun h48 => ?_)
              · refine lv_iinc (k := 4) (v := nI (i + 1)) hx hb dd_D_nextDue_69 hl rfl (nI_1 _) (by decide) rfl (fun ls hl => ?_)
                have hl : lv_has ls 5 [(2, .int (nI (i + 1))), (4, .int (bd_b false)), (3, .ref (ad (20 + i))), (0, .ref (ad 0)), (1, .ref (ad (20 + b)))] := hl
                refine lv_goto (tgt := 4) hx hb dd_D_nextDue_72 rfl ?_
                exact ih (i + 1) (some b) ls (by omega) (by rw [cs_d, ← he]; simp [cs_i, h9, Nat.not_le.mpr h9, h24, Int64.not_le.mpr h36]) (by intro z hz; cases hz; omega) (lv_sub hl [3, 4, 0] rfl)
              · cases h48
            · refine lv_iconst (v := bd_b true) hx hb dd_D_nextDue_39 (by decide) ?_
              refine lv_goto (tgt := 44) hx hb dd_D_nextDue_40 rfl ?_
              refine lv_istore hx hb dd_D_nextDue_44 hl (by decide) rfl (fun ls hl => ?_)
              have hl : lv_has ls 5 [(4, .int (bd_b true)), (3, .ref (ad (20 + i))), (0, .ref (ad 0)), (1, .ref (ad (20 + b))), (2, .int (nI i))] := hl
              refine lv_iload hx hb dd_D_nextDue_46 (lv_at hl 0 rfl) ?_
              refine bq_zeq (tgt := 69) hx hb dd_D_nextDue_48 rfl (fun h48 => ?_) (fun h48 => ?_)
              · cases h48
              · refine lv_aload_n hx hb dd_D_nextDue_51 rfl (lv_at hl 3 rfl) ?_
                refine lv_ifnull hx hb dd_D_nextDue_52 ?_
                refine lv_aload_n hx hb dd_D_nextDue_55 rfl (lv_at hl 1 rfl) ?_
                refine cw_get1 (k := 20 + i) (C := rn_B) (T := ft_B) (NF := 11) (v := .long (G (20 + i) 8)) hx hb hts tw_fs_B hown hK hP (hks.2.2 _ (by omega)) (cw_CB _ ad ca _ _ _ _) rfl 8 (by decide) (hts _ tw_fl_D_98) rfl rfl dd_D_nextDue_56 ?_
                refine lv_aload_n hx hb dd_D_nextDue_59 rfl (lv_at hl 3 rfl) ?_
                refine cw_get1 (k := 20 + b) (C := rn_B) (T := ft_B) (NF := 11) (v := .long (G (20 + b) 8)) hx hb hts tw_fs_B hown hK hP (hks.2.2 _ (by omega)) (cw_CB _ ad ca _ _ _ _) rfl 8 (by decide) (hts _ tw_fl_D_98) rfl rfl dd_D_nextDue_60 ?_
                refine W.lcmp hx hb dd_D_nextDue_63 ?_
                refine bq_lge (tgt := 69) hx hb dd_D_nextDue_64 rfl (fun h64 => ?_) (fun h64 => ?_)
                · refine lv_iinc (k := 4) (v := nI (i + 1)) hx hb dd_D_nextDue_69 hl rfl (nI_1 _) (by decide) rfl (fun ls hl => ?_)
                  have hl : lv_has ls 5 [(2, .int (nI (i + 1))), (4, .int (bd_b true)), (3, .ref (ad (20 + i))), (0, .ref (ad 0)), (1, .ref (ad (20 + b)))] := hl
                  refine lv_goto (tgt := 4) hx hb dd_D_nextDue_72 rfl ?_
                  exact ih (i + 1) (some b) ls (by omega) (by rw [cs_d, ← he]; simp [cs_i, h9, Nat.not_le.mpr h9, h24, h36, Int64.not_lt.mpr h64]) (by intro z hz; cases hz; omega) (lv_sub hl [3, 4, 0] rfl)
                · refine lv_aload_n hx hb dd_D_nextDue_67 rfl (lv_at hl 1 rfl) ?_
                  refine lv_astore_n hx hb dd_D_nextDue_68 rfl hl (by decide) rfl (fun ls hl => ?_)
                  have hl : lv_has ls 5 [(1, .ref (ad (20 + i))), (4, .int (bd_b true)), (3, .ref (ad (20 + i))), (0, .ref (ad 0)), (2, .int (nI i))] := hl
                  refine lv_iinc (k := 4) (v := nI (i + 1)) hx hb dd_D_nextDue_69 hl rfl (nI_1 _) (by decide) rfl (fun ls hl => ?_)
                  have hl : lv_has ls 5 [(2, .int (nI (i + 1))), (1, .ref (ad (20 + i))), (4, .int (bd_b true)), (3, .ref (ad (20 + i))), (0, .ref (ad 0))] := hl
                  refine lv_goto (tgt := 4) hx hb dd_D_nextDue_72 rfl ?_
                  exact ih (i + 1) (some i) ls (by omega) (by rw [cs_d, ← he]; simp [cs_i, h9, Nat.not_le.mpr h9, h24, h36, h64]) (by intro z hz; cases hz; omega) (lv_sub hl [4, 1, 0] rfl)
  refine lv_null hx hb dd_D_nextDue_0 ?_
  refine lv_astore_nN hx hb dd_D_nextDue_1 rfl hl (by decide) rfl (fun ls hl => ?_)
  have hl : lv_has ls 5 [(1, .null), (0, .ref (ad 0))] := hl
  refine lv_iconst (v := nI 0) hx hb dd_D_nextDue_2 (by decide) ?_
  refine lv_istore_n hx hb dd_D_nextDue_3 rfl hl (by decide) rfl (fun ls hl => ?_)
  have hl : lv_has ls 5 [(2, .int (nI 0)), (1, .null), (0, .ref (ad 0))] := hl
  exact lp (N 6 0) 0 none ls (by omega) rfl (fun z hz => by cases hz) (lv_sub hl [2, 1, 0] rfl)

