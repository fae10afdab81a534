/-! Part 10: the reference: isQueue, isBlock, leads, root, live. By wip/gen/gen_ref1.py. -/
theorem bd_in_1 {q : Int32} {n : Nat} (h : q < 0) : bd_in q n = false := by
  have h1 : q.toInt < 0 := by simpa using Int32.lt_iff_toInt_lt.mp h
  simp only [bd_in, decide_eq_false_iff_not]
  omega
theorem bd_in_2 {q : Int32} {n : Nat} (hn : n < 2 ^ 31) (h : nI n ≤ q) : bd_in q n = false := by
  have h1 := Int32.le_iff_toInt_le.mp h
  rw [nI_toInt hn] at h1
  simp only [bd_in, decide_eq_false_iff_not]
  omega
theorem bd_in_3 {q : Int32} {n : Nat} (hn : n < 2 ^ 31) (h1 : ¬ q < 0) (h2 : ¬ nI n ≤ q) : bd_in q n = true := by
  have h3 : ¬ q.toInt < 0 := fun z => h1 (Int32.lt_iff_toInt_lt.mpr (by simpa using z))
  have h4 : ¬ (n : Int) ≤ q.toInt := fun z => h2 (Int32.le_iff_toInt_le.mpr (by rw [nI_toInt hn]; exact z))
  simp only [bd_in, decide_eq_true_eq]
  omega
set_option maxHeartbeats 4000000 in
set_option maxRecDepth 100000 in
theorem rc_isQueue (l : Launch) (D : va_G) (ra : Nat → Nat) (ca : Nat → ClassId) (N : sp_N) (O : sp_O) (Z : sp_Z) (B : sp_B) (hB : sp_Bd N O) (q : Int32) : Met l my_M_isQueue (Cond.code my_M_isQueue cd_M_isQueue 2 (some .boolean) :: bg_tbl) ({ frames := 0, cells := 0, slots := 0, locals := 0 }) (va_Pc [.ref (ra 0), .int q] (rf_U D ra ca N O Z B)) (vp_Si (fun r => r = bd_b (bd_in q (N 1 0)))) 0 0 (fun _ => False) := by
  refine Met.ofW (cc := cd_M_isQueue) (maxL := 2) (ret := (some .boolean)) (by decide) rfl ?_
  intro p e s m args below meth c s₁ BB hml hv
  obtain ⟨rfl, hP, hK⟩ := hv
  have hx := BB.exec
  have hb := BB.bytes
  have hr := BB.returns
  have hts : ∀ w ∈ bg_tbl, w.before ([.ref (ra 0), .int q] : List Value).toArray s = true := fun w h => atoms_spec (ws := (Cond.code my_M_isQueue cd_M_isQueue 2 (some .boolean) :: bg_tbl)) BB.pre w (List.mem_cons_of_mem _ h)
  have hown : s.vm.findClass rn_M = some m.cls := findClass_of_methodNamed BB.named
  have hlocks := BB.notSynchronized
  obtain ⟨hB_0, hB_1, hB_2, hB_3, hB_4, hB_5, hB_6, hB_7, hB_8, hB_9, hB_10, hB_11, hB_12, hB_17⟩ := id hB
  have hl := lv_entry ([.ref (ra 0), .int q]) (n := 2) (Nat.le_of_ble_eq_true rfl)
  rw [lg_entry_eq]
  generalize (lg_sl ([.ref (ra 0), .int q]) ++ List.replicate (2 - (lg_sl ([.ref (ra 0), .int q])).length) Slot.unset).toArray = ls at hl ⊢
  have hl : lv_has ls 2 [(0, .ref (ra 0)), (1, .int q)] := hl
  refine lv_iload_n hx hb dd_M_isQueue_0 rfl (lv_at hl 1 rfl) ?_
  refine lv_if_lt (tgt := 16) hx hb dd_M_isQueue_1 rfl (fun h1 => ?_) (fun h1 => ?_)
  · refine lv_iconst (v := bd_b false) hx hb dd_M_isQueue_16 (by decide) ?_
    exact W.zret (ty := .boolean) hx hb hr (bd_b_nar _) (fun tt htt hWW => ⟨_, rfl, (by rw [bd_in_1 h1]), htt⟩) (fun _ h => by cases h) dd_M_isQueue_17
  · refine lv_iload_n hx hb dd_M_isQueue_4 rfl (lv_at hl 1 rfl) ?_
    refine lv_aload_n hx hb dd_M_isQueue_5 rfl (lv_at hl 0 rfl) ?_
    refine va_get (D := D) (ci := 4) (v := .int (nI (N 1 0))) (C := rn_M) (T := ft_M) (N := 19) hx hb hts tw_fs_M hown hK hP 0 rfl rfl 1 (by decide) (hts _ tw_fl_M_7) (fun _ h9 => h9) rfl dd_M_isQueue_6 ?_
    refine lv_icmp_ge (tgt := 16) hx hb dd_M_isQueue_9 rfl (fun h9 => ?_) (fun h9 => ?_)
    · refine lv_iconst (v := bd_b false) hx hb dd_M_isQueue_16 (by decide) ?_
      exact W.zret (ty := .boolean) hx hb hr (bd_b_nar _) (fun tt htt hWW => ⟨_, rfl, (by rw [bd_in_2 (Nat.lt_of_le_of_lt hB_1 (by decide)) h9]), htt⟩) (fun _ h => by cases h) dd_M_isQueue_17
    · refine lv_iconst (v := bd_b true) hx hb dd_M_isQueue_12 (by decide) ?_
      refine lv_goto (tgt := 17) hx hb dd_M_isQueue_13 rfl ?_
      exact W.zret (ty := .boolean) hx hb hr (bd_b_nar _) (fun tt htt hWW => ⟨_, rfl, (by rw [bd_in_3 (Nat.lt_of_le_of_lt hB_1 (by decide)) h1 h9]), htt⟩) (fun _ h => by cases h) dd_M_isQueue_17

set_option maxHeartbeats 4000000 in
set_option maxRecDepth 100000 in
theorem rc_isBlock (l : Launch) (D : va_G) (ra : Nat → Nat) (ca : Nat → ClassId) (N : sp_N) (O : sp_O) (Z : sp_Z) (B : sp_B) (hB : sp_Bd N O) (q : Int32) : Met l my_M_isBlock (Cond.code my_M_isBlock cd_M_isBlock 2 (some .boolean) :: bg_tbl) ({ frames := 0, cells := 0, slots := 0, locals := 0 }) (va_Pc [.ref (ra 0), .int q] (rf_U D ra ca N O Z B)) (vp_Si (fun r => r = bd_b (bd_in q (N 6 0)))) 0 0 (fun _ => False) := by
  refine Met.ofW (cc := cd_M_isBlock) (maxL := 2) (ret := (some .boolean)) (by decide) rfl ?_
  intro p e s m args below meth c s₁ BB hml hv
  obtain ⟨rfl, hP, hK⟩ := hv
  have hx := BB.exec
  have hb := BB.bytes
  have hr := BB.returns
  have hts : ∀ w ∈ bg_tbl, w.before ([.ref (ra 0), .int q] : List Value).toArray s = true := fun w h => atoms_spec (ws := (Cond.code my_M_isBlock cd_M_isBlock 2 (some .boolean) :: bg_tbl)) BB.pre w (List.mem_cons_of_mem _ h)
  have hown : s.vm.findClass rn_M = some m.cls := findClass_of_methodNamed BB.named
  have hlocks := BB.notSynchronized
  obtain ⟨hB_0, hB_1, hB_2, hB_3, hB_4, hB_5, hB_6, hB_7, hB_8, hB_9, hB_10, hB_11, hB_12, hB_17⟩ := id hB
  have hl := lv_entry ([.ref (ra 0), .int q]) (n := 2) (Nat.le_of_ble_eq_true rfl)
  rw [lg_entry_eq]
  generalize (lg_sl ([.ref (ra 0), .int q]) ++ List.replicate (2 - (lg_sl ([.ref (ra 0), .int q])).length) Slot.unset).toArray = ls at hl ⊢
  have hl : lv_has ls 2 [(0, .ref (ra 0)), (1, .int q)] := hl
  refine lv_iload_n hx hb dd_M_isBlock_0 rfl (lv_at hl 1 rfl) ?_
  refine lv_if_lt (tgt := 16) hx hb dd_M_isBlock_1 rfl (fun h1 => ?_) (fun h1 => ?_)
  · refine lv_iconst (v := bd_b false) hx hb dd_M_isBlock_16 (by decide) ?_
    exact W.zret (ty := .boolean) hx hb hr (bd_b_nar _) (fun tt htt hWW => ⟨_, rfl, (by rw [bd_in_1 h1]), htt⟩) (fun _ h => by cases h) dd_M_isBlock_17
  · refine lv_iload_n hx hb dd_M_isBlock_4 rfl (lv_at hl 1 rfl) ?_
    refine lv_aload_n hx hb dd_M_isBlock_5 rfl (lv_at hl 0 rfl) ?_
    refine va_get (D := D) (ci := 4) (v := .int (nI (N 6 0))) (C := rn_M) (T := ft_M) (N := 19) hx hb hts tw_fs_M hown hK hP 0 rfl rfl 6 (by decide) (hts _ tw_fl_M_61) (fun _ h9 => h9) rfl dd_M_isBlock_6 ?_
    refine lv_icmp_ge (tgt := 16) hx hb dd_M_isBlock_9 rfl (fun h9 => ?_) (fun h9 => ?_)
    · refine lv_iconst (v := bd_b false) hx hb dd_M_isBlock_16 (by decide) ?_
      exact W.zret (ty := .boolean) hx hb hr (bd_b_nar _) (fun tt htt hWW => ⟨_, rfl, (by rw [bd_in_2 (Nat.lt_of_le_of_lt hB_6 (by decide)) h9]), htt⟩) (fun _ h => by cases h) dd_M_isBlock_17
    · refine lv_iconst (v := bd_b true) hx hb dd_M_isBlock_12 (by decide) ?_
      refine lv_goto (tgt := 17) hx hb dd_M_isBlock_13 rfl ?_
      exact W.zret (ty := .boolean) hx hb hr (bd_b_nar _) (fun tt htt hWW => ⟨_, rfl, (by rw [bd_in_3 (Nat.lt_of_le_of_lt hB_6 (by decide)) h1 h9]), htt⟩) (fun _ h => by cases h) dd_M_isBlock_17

set_option maxHeartbeats 4000000 in
set_option maxRecDepth 100000 in
theorem rc_leads (l : Launch) (D : va_G) (ra : Nat → Nat) (ca : Nat → ClassId) (N : sp_N) (O : sp_O) (Z : sp_Z) (B : sp_B) (hB : sp_Bd N O) (a b : Nat) (ha : a < 12) (hb2 : b < 2 ^ 31) : Met l my_M_leads (Cond.code my_M_leads cd_M_leads 5 (some .boolean) :: bg_tbl) ({ frames := 0, cells := 0, slots := 0, locals := 0 }) (va_Pc [.ref (ra 0), .int (nI a), .int (nI b)] (rf_U D ra ca N O Z B)) (vp_Si (fun r => r = bd_b (sp_l N a b))) 0 0 (fun _ => False) := by
  refine Met.ofW (cc := cd_M_leads) (maxL := 5) (ret := (some .boolean)) (by decide) rfl ?_
  intro p e s m args below meth c s₁ BB hml hv
  obtain ⟨rfl, hP, hK⟩ := hv
  have hx := BB.exec
  have hb := BB.bytes
  have hr := BB.returns
  have hts : ∀ w ∈ bg_tbl, w.before ([.ref (ra 0), .int (nI a), .int (nI b)] : List Value).toArray s = true := fun w h => atoms_spec (ws := (Cond.code my_M_leads cd_M_leads 5 (some .boolean) :: bg_tbl)) BB.pre w (List.mem_cons_of_mem _ h)
  have hown : s.vm.findClass rn_M = some m.cls := findClass_of_methodNamed BB.named
  have hlocks := BB.notSynchronized
  obtain ⟨hB_0, hB_1, hB_2, hB_3, hB_4, hB_5, hB_6, hB_7, hB_8, hB_9, hB_10, hB_11, hB_12, hB_17⟩ := id hB
  have hl := lv_entry ([.ref (ra 0), .int (nI a), .int (nI b)]) (n := 5) (Nat.le_of_ble_eq_true rfl)
  rw [lg_entry_eq]
  generalize (lg_sl ([.ref (ra 0), .int (nI a), .int (nI b)]) ++ List.replicate (5 - (lg_sl ([.ref (ra 0), .int (nI a), .int (nI b)])).length) Slot.unset).toArray = ls at hl ⊢
  have hl : lv_has ls 5 [(0, .ref (ra 0)), (1, .int (nI a)), (2, .int (nI b))] := hl
  have lp : ∀ (n : Nat) (y k : Nat) (ls : Array Slot), (n + k = 12) → (y < 12) → (sp_k N n y b = sp_l N a b) →  lv_has ls 5 [(0, .ref (ra 0)), (2, .int (nI b)), (3, .int (nI y)), (4, .int (nI k))] → W p l e (headSpec (Cond.code my_M_leads cd_M_leads 5 (some .boolean) :: bg_tbl) ({ frames := 0, cells := 0, slots := 0, locals := 0 })).room s m ([.ref (ra 0), .int (nI a), .int (nI b)] : List Value).toArray below meth c s.heap [] 0 0 (MQ below (vp_Si (fun r => r = bd_b (sp_l N a b))) ([.ref (ra 0), .int (nI a), .int (nI b)] : List Value).toArray s 0 0 (fun _ => False)) (F0 m 5 ls []) := by
    intro n
    induction n with
    | zero =>
      intro y k ls hk hy he hl
      refine lv_iload hx hb dd_M_leads_5 (lv_at hl 3 rfl) ?_
      refine lv_bipush (v := nI 12) hx hb dd_M_leads_7 (by decide) ?_
      refine bq_ge (tgt := 39) hx hb (by omega) (by decide) dd_M_leads_9 rfl (fun h9 => ?_) (fun h9 => ?_)
      · refine lv_iconst (v := bd_b false) hx hb dd_M_leads_39 (by decide) ?_
        exact W.zret (ty := .boolean) hx hb hr (bd_b_nar _) (fun tt htt hWW => ⟨_, rfl, (by rw [← he]; rfl), htt⟩) (fun _ h => by cases h) dd_M_leads_40
      · exact absurd h9 (by omega)
    | succ n ih =>
      intro y k ls hk hy he hl
      refine lv_iload hx hb dd_M_leads_5 (lv_at hl 3 rfl) ?_
      refine lv_bipush (v := nI 12) hx hb dd_M_leads_7 (by decide) ?_
      refine bq_ge (tgt := 39) hx hb (by omega) (by decide) dd_M_leads_9 rfl (fun h9 => ?_) (fun h9 => ?_)
      · exact absurd h9 (by omega)
      · refine lv_iload_n hx hb dd_M_leads_12 rfl (lv_at hl 2 rfl) ?_
        refine lv_iload_n hx hb dd_M_leads_13 rfl (lv_at hl 1 rfl) ?_
        refine bq_ne (tgt := 19) hx hb (by omega) (by omega) dd_M_leads_14 rfl (fun h14 => ?_) (fun h14 => ?_)
        · refine lv_iload_n hx hb dd_M_leads_19 rfl (lv_at hl 2 rfl) ?_
          refine lv_iconst (v := nI 3) hx hb dd_M_leads_20 (by decide) ?_
          refine bq_ge (tgt := 26) hx hb (by omega) (by decide) dd_M_leads_21 rfl (fun h21 => ?_) (fun h21 => ?_)
          · refine lv_aload_n hx hb dd_M_leads_26 rfl (lv_at hl 0 rfl) ?_
            refine va_get (D := D) (ci := 4) (v := .ref (ra 2)) (C := rn_M) (T := ft_M) (N := 19) hx hb hts tw_fs_M hown hK hP 0 rfl rfl 2 (by decide) (hts _ tw_fl_M_13) (fun _ h9 => h9) rfl dd_M_leads_27 ?_
            refine lv_iload_n hx hb dd_M_leads_30 rfl (lv_at hl 2 rfl) ?_
            refine bq_iald hx hb hK hP 1 0 rfl rfl hy (by decide) dd_M_leads_31 ?_
            refine lv_istore_n hx hb dd_M_leads_32 rfl hl (by decide) rfl (fun ls hl => ?_)
            have hl : lv_has ls 5 [(3, .int (nI (N 2 y))), (0, .ref (ra 0)), (2, .int (nI b)), (4, .int (nI k))] := hl
            refine lv_iinc (k := 3) (v := nI (k + 1)) hx hb dd_M_leads_33 hl rfl (nI_1 _) (by decide) rfl (fun ls hl => ?_)
            have hl : lv_has ls 5 [(4, .int (nI (k + 1))), (3, .int (nI (N 2 y))), (0, .ref (ra 0)), (2, .int (nI b))] := hl
            refine lv_goto (tgt := 5) hx hb dd_M_leads_36 rfl ?_
            exact ih (N 2 y) (k + 1) ls (by omega) (hB_2 y) (by rw [← he, sp_k, if_neg h14, if_neg (by omega)]) (lv_sub hl [2, 3, 1, 0] rfl)
          · refine lv_iconst (v := bd_b false) hx hb dd_M_leads_24 (by decide) ?_
            exact W.zret (ty := .boolean) hx hb hr (bd_b_nar _) (fun tt htt hWW => ⟨_, rfl, (by rw [← he, sp_k, if_neg h14, if_pos h21]), htt⟩) (fun _ h => by cases h) dd_M_leads_25
        · refine lv_iconst (v := bd_b true) hx hb dd_M_leads_17 (by decide) ?_
          exact W.zret (ty := .boolean) hx hb hr (bd_b_nar _) (fun tt htt hWW => ⟨_, rfl, (by rw [← he, sp_k, if_pos h14]), htt⟩) (fun _ h => by cases h) dd_M_leads_18
  refine lv_iload_n hx hb dd_M_leads_0 rfl (lv_at hl 1 rfl) ?_
  refine lv_istore_n hx hb dd_M_leads_1 rfl hl (by decide) rfl (fun ls hl => ?_)
  have hl : lv_has ls 5 [(3, .int (nI a)), (0, .ref (ra 0)), (1, .int (nI a)), (2, .int (nI b))] := hl
  refine lv_iconst (v := nI 0) hx hb dd_M_leads_2 (by decide) ?_
  refine lv_istore hx hb dd_M_leads_3 hl (by decide) rfl (fun ls hl => ?_)
  have hl : lv_has ls 5 [(4, .int (nI 0)), (3, .int (nI a)), (0, .ref (ra 0)), (1, .int (nI a)), (2, .int (nI b))] := hl
  exact lp 12 a 0 ls (by omega) ha rfl (lv_sub hl [2, 4, 1, 0] rfl)

set_option maxHeartbeats 4000000 in
set_option maxRecDepth 100000 in
theorem rc_root (l : Launch) (D : va_G) (ra : Nat → Nat) (ca : Nat → ClassId) (N : sp_N) (O : sp_O) (Z : sp_Z) (B : sp_B) (hB : sp_Bd N O) (a : Nat) (ha : a < 12) : Met l my_M_root (Cond.code my_M_root cd_M_root 2 (some .int) :: bg_tbl) ({ frames := 1, cells := 0, slots := 0, locals := 24 }) (va_Pc [.ref (ra 0), .int (nI a)] (rf_U D ra ca N O Z B)) (vp_Si (fun r => r = nI (sp_r N a))) 0 0 (fun _ => False) := by
  refine Met.ofW (cc := cd_M_root) (maxL := 2) (ret := (some .int)) (by decide) rfl ?_
  intro p e s m args below meth c s₁ BB hml hv
  obtain ⟨rfl, hP, hK⟩ := hv
  have hx := BB.exec
  have hb := BB.bytes
  have hr := BB.returns
  have hts : ∀ w ∈ bg_tbl, w.before ([.ref (ra 0), .int (nI a)] : List Value).toArray s = true := fun w h => atoms_spec (ws := (Cond.code my_M_root cd_M_root 2 (some .int) :: bg_tbl)) BB.pre w (List.mem_cons_of_mem _ h)
  have hown : s.vm.findClass rn_M = some m.cls := findClass_of_methodNamed BB.named
  have hlocks := BB.notSynchronized
  obtain ⟨hB_0, hB_1, hB_2, hB_3, hB_4, hB_5, hB_6, hB_7, hB_8, hB_9, hB_10, hB_11, hB_12, hB_17⟩ := id hB
  have hl := lv_entry ([.ref (ra 0), .int (nI a)]) (n := 2) (Nat.le_of_ble_eq_true rfl)
  rw [lg_entry_eq]
  generalize (lg_sl ([.ref (ra 0), .int (nI a)]) ++ List.replicate (2 - (lg_sl ([.ref (ra 0), .int (nI a)])).length) Slot.unset).toArray = ls at hl ⊢
  have hl : lv_has ls 2 [(0, .ref (ra 0)), (1, .int (nI a))] := hl
  refine lv_aload_n hx hb dd_M_root_0 rfl (lv_at hl 0 rfl) ?_
  refine lv_iload_n hx hb dd_M_root_1 rfl (lv_at hl 1 rfl) ?_
  refine lv_iconst (v := nI 0) hx hb dd_M_root_2 (by decide) ?_
  refine rf_calli (As := [.int (nI a), .int (nI 0)]) (rest := []) (v := bd_b (sp_l N a 0)) ⟨hx, hb, hml, hown, hts⟩ (rc_leads l D ra ca N O Z B hB a 0 ha (by decide)) (bg_cwV 2 hts tw_ml_M_64 tw_im_M_leads tw_se_M_leads tw_in_M tw_co_M_leads rfl rfl th_M_leads ⟨Nat.le_of_ble_eq_true rfl, Nat.le_of_ble_eq_true rfl⟩) hK hP rfl hl.1 rfl (by decide) dd_M_root_3 ⟨Nat.zero_le _, Nat.zero_le _⟩ ?_
  refine bq_zeq (tgt := 13) hx hb dd_M_root_6 rfl (fun h6 => ?_) (fun h6 => ?_)
  · refine lv_aload_n hx hb dd_M_root_13 rfl (lv_at hl 0 rfl) ?_
    refine lv_iload_n hx hb dd_M_root_14 rfl (lv_at hl 1 rfl) ?_
    refine lv_iconst (v := nI 1) hx hb dd_M_root_15 (by decide) ?_
    refine rf_calli (As := [.int (nI a), .int (nI 1)]) (rest := []) (v := bd_b (sp_l N a 1)) ⟨hx, hb, hml, hown, hts⟩ (rc_leads l D ra ca N O Z B hB a 1 ha (by decide)) (bg_cwV 2 hts tw_ml_M_64 tw_im_M_leads tw_se_M_leads tw_in_M tw_co_M_leads rfl rfl th_M_leads ⟨Nat.le_of_ble_eq_true rfl, Nat.le_of_ble_eq_true rfl⟩) hK hP rfl hl.1 rfl (by decide) dd_M_root_16 ⟨Nat.zero_le _, Nat.zero_le _⟩ ?_
    refine bq_zeq (tgt := 26) hx hb dd_M_root_19 rfl (fun h19 => ?_) (fun h19 => ?_)
    · refine lv_iconst (v := nI 2) hx hb dd_M_root_26 (by decide) ?_
      exact W.iret hx hb hr (fun tt htt hWW => ⟨_, rfl, (by rw [sp_r, if_neg (by rw [h6]; decide), if_neg (by rw [h19]; decide)]), htt⟩) (fun _ h => by cases h) dd_M_root_27
    · refine lv_iconst (v := nI 1) hx hb dd_M_root_22 (by decide) ?_
      refine lv_goto (tgt := 27) hx hb dd_M_root_23 rfl ?_
      exact W.iret hx hb hr (fun tt htt hWW => ⟨_, rfl, (by rw [sp_r, if_neg (by rw [h6]; decide), if_pos h19]), htt⟩) (fun _ h => by cases h) dd_M_root_27
  · refine lv_iconst (v := nI 0) hx hb dd_M_root_9 (by decide) ?_
    refine lv_goto (tgt := 27) hx hb dd_M_root_10 rfl ?_
    exact W.iret hx hb hr (fun tt htt hWW => ⟨_, rfl, (by rw [sp_r, if_pos h6]), htt⟩) (fun _ h => by cases h) dd_M_root_27

set_option maxHeartbeats 4000000 in
set_option maxRecDepth 100000 in
theorem rc_live (l : Launch) (D : va_G) (ra : Nat → Nat) (ca : Nat → ClassId) (N : sp_N) (O : sp_O) (Z : sp_Z) (B : sp_B) (hB : sp_Bd N O) (t : Nat) (ht : t < 160) : Met l my_M_live (Cond.code my_M_live cd_M_live 2 (some .boolean) :: bg_tbl) ({ frames := 0, cells := 0, slots := 0, locals := 0 }) (va_Pc [.ref (ra 0), .int (nI t)] (rf_U D ra ca N O Z B)) (vp_Si (fun r => r = bd_b (sp_v N t))) 0 0 (fun _ => False) := by
  refine Met.ofW (cc := cd_M_live) (maxL := 2) (ret := (some .boolean)) (by decide) rfl ?_
  intro p e s m args below meth c s₁ BB hml hv
  obtain ⟨rfl, hP, hK⟩ := hv
  have hx := BB.exec
  have hb := BB.bytes
  have hr := BB.returns
  have hts : ∀ w ∈ bg_tbl, w.before ([.ref (ra 0), .int (nI t)] : List Value).toArray s = true := fun w h => atoms_spec (ws := (Cond.code my_M_live cd_M_live 2 (some .boolean) :: bg_tbl)) BB.pre w (List.mem_cons_of_mem _ h)
  have hown : s.vm.findClass rn_M = some m.cls := findClass_of_methodNamed BB.named
  have hlocks := BB.notSynchronized
  obtain ⟨hB_0, hB_1, hB_2, hB_3, hB_4, hB_5, hB_6, hB_7, hB_8, hB_9, hB_10, hB_11, hB_12, hB_17⟩ := id hB
  have hl := lv_entry ([.ref (ra 0), .int (nI t)]) (n := 2) (Nat.le_of_ble_eq_true rfl)
  rw [lg_entry_eq]
  generalize (lg_sl ([.ref (ra 0), .int (nI t)]) ++ List.replicate (2 - (lg_sl ([.ref (ra 0), .int (nI t)])).length) Slot.unset).toArray = ls at hl ⊢
  have hl : lv_has ls 2 [(0, .ref (ra 0)), (1, .int (nI t))] := hl
  refine lv_aload_n hx hb dd_M_live_0 rfl (lv_at hl 0 rfl) ?_
  refine va_get (D := D) (ci := 4) (v := .ref (ra 8)) (C := rn_M) (T := ft_M) (N := 19) hx hb hts tw_fs_M hown hK hP 0 rfl rfl 8 (by decide) (hts _ tw_fl_M_29) (fun _ h9 => h9) rfl dd_M_live_1 ?_
  refine lv_iload_n hx hb dd_M_live_4 rfl (lv_at hl 1 rfl) ?_
  refine bq_iald hx hb hK hP 6 5 rfl rfl ht (by decide) dd_M_live_5 ?_
  refine lv_iconst (v := nI 3) hx hb dd_M_live_6 (by decide) ?_
  refine bq_eq (tgt := 20) hx hb (Nat.lt_trans (hB_8 t) (by decide)) (by decide) dd_M_live_7 rfl (fun h7 => ?_) (fun h7 => ?_)
  · refine lv_iconst (v := bd_b true) hx hb dd_M_live_20 (by decide) ?_
    refine lv_goto (tgt := 25) hx hb dd_M_live_21 rfl ?_
    exact W.zret (ty := .boolean) hx hb hr (bd_b_nar _) (fun tt htt hWW => ⟨_, rfl, (by rw [sp_v, decide_eq_true h7]; rfl), htt⟩) (fun _ h => by cases h) dd_M_live_25
  · refine lv_aload_n hx hb dd_M_live_10 rfl (lv_at hl 0 rfl) ?_
    refine va_get (D := D) (ci := 4) (v := .ref (ra 8)) (C := rn_M) (T := ft_M) (N := 19) hx hb hts tw_fs_M hown hK hP 0 rfl rfl 8 (by decide) (hts _ tw_fl_M_29) (fun _ h9 => h9) rfl dd_M_live_11 ?_
    refine lv_iload_n hx hb dd_M_live_14 rfl (lv_at hl 1 rfl) ?_
    refine bq_iald hx hb hK hP 6 5 rfl rfl ht (by decide) dd_M_live_15 ?_
    refine lv_iconst (v := nI 4) hx hb dd_M_live_16 (by decide) ?_
    refine bq_ne (tgt := 24) hx hb (Nat.lt_trans (hB_8 t) (by decide)) (by decide) dd_M_live_17 rfl (fun h17 => ?_) (fun h17 => ?_)
    · refine lv_iconst (v := bd_b false) hx hb dd_M_live_24 (by decide) ?_
      exact W.zret (ty := .boolean) hx hb hr (bd_b_nar _) (fun tt htt hWW => ⟨_, rfl, (by rw [sp_v, decide_eq_false h7, decide_eq_false h17]; rfl), htt⟩) (fun _ h => by cases h) dd_M_live_25
    · refine lv_iconst (v := bd_b true) hx hb dd_M_live_20 (by decide) ?_
      refine lv_goto (tgt := 25) hx hb dd_M_live_21 rfl ?_
      exact W.zret (ty := .boolean) hx hb hr (bd_b_nar _) (fun tt htt hWW => ⟨_, rfl, (by rw [sp_v, decide_eq_false h7, decide_eq_true h17]; rfl), htt⟩) (fun _ h => by cases h) dd_M_live_25

