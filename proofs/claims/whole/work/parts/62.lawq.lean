/-! Part 62: the case of queue. By wip/gen/gen_law.py. -/
theorem bd_wd_lt {w : Int32} {k : Nat} (h : bd_wd w = some k) : 1 ≤ k ∧ k ≤ 8 := by
  by_cases h1 : w < nI 1
  · rw [bd_wd_1 h1] at h; cases h
  · by_cases h2 : w ≤ nI 8
    · obtain ⟨b, hb1, hb8, rfl, hw9⟩ := bd_wd_3 h1 h2
      rw [hw9] at h
      cases h
      exact ⟨hb1, hb8⟩
    · rw [bd_wd_2 h2] at h; cases h
theorem nm_queue_12 {N : sp_N} (h : N 1 0 = 12) (q w : Option Nat) : nm_queue N q w = N := by
  unfold nm_queue
  split
  · rw [if_pos h]
  · rfl
  · rfl
set_option maxHeartbeats 2000000 in
set_option maxRecDepth 100000 in
theorem lw_c_queue (l : Launch) {p : Program} {e : Env} {s : State} {m : MethodId} {below : List Frame} {meth : Method} {c : Code} {H : Heap} {cells slots b L i a0 m0 : Nat} {ls : Array Slot} {xs : Nat → Int32} {D : va_G} {Q : State → Prop} (hx : p.tables.exec = Jvm.exec) (hb : c.code = code) (hml : c.maxLocals = 4) (hown : s.vm.findClass rn_L = some m.cls) (hts : ∀ w ∈ bg_tbl, w.before #[Value.ref b] s = true) (hX : va_X b L xs s s.heap) (hbl : b < s.heap.size) (hL : L < 2 ^ 31) (hI : lw_I s D H a0 m0) (hS : va_S (fun q => s.heap.size ≤ q) s.heap H []) (hl : lv_has ls 4 [(3, .int (nI i)), (2, .ref m0), (1, .ref a0), (0, .ref b)]) (hi : i + 3 < L) (hf : cells + 1 ≤ 600000 ∧ slots + 11 ≤ 7302250) (kk : ∀ H1, lw_I s D H1 a0 m0 → va_S (fun q => s.heap.size ≤ q) s.heap H1 [] → W p l e room_1 s m #[Value.ref b] below meth c H1 [] (cells + 1) (slots + 11) Q (F0 m 765 ls [])) : W p l e room_1 s m #[Value.ref b] below meth c H [] cells slots Q (F0 m 136 ls []) := by
  obtain ⟨ks, ad, cb, ra, ca, M, X, F, G, N, O, Z, B, rfl, rfl, hKc, hKr, hP, hQ, hJ, hJr, hs1, hs2, hap, hk, hk2, hR, hF⟩ := hI
  have hbA : ¬ s.heap.size ≤ b := by omega
  have h12 := cl_12 hR.1
  have h160 := cl_160 hR.1
  have h3q := cl_3 hR.1
  by_cases hq12 : N 1 0 = 12
  · refine lv_aload_n hx hb dd_L_law_136 rfl (lv_at hl 2 rfl) ?_
    refine lw_ld (k := 1) (A := fun q => s.heap.size ≤ q) hx hb hX hbl hbA hS hl (q0 := 3) (q3 := 0) rfl rfl (by omega) hL (by decide) dd_L_law_137 dd_L_law_138 dd_L_law_139 dd_L_law_140 dd_L_law_141 ?_
    refine lw_ld (k := 2) (A := fun q => s.heap.size ≤ q) hx hb hX hbl hbA hS hl (q0 := 3) (q3 := 0) rfl rfl (by omega) hL (by decide) dd_L_law_142 dd_L_law_143 dd_L_law_144 dd_L_law_145 dd_L_law_146 ?_
    refine cw_calli (k := 0) (C := rn_D) (T := ft_D) (NF := 9) (As := [.int (xs (i + 1)), .int (xs (i + 2))]) (rest := []) ⟨hx, hb, hml, hown, hts⟩ (cc_D_queue12 l D ks ad cb hJ M X F G N O B hR.1 hk hR.2.2.2 hq12 (xs (i + 1)) (xs (i + 2))) (bg_cwV 2 hts tw_ml_L_21 tw_im_D_queue tw_se_D_queue tw_in_D tw_co_D_queue rfl rfl th_D_queue ⟨Nat.le_of_ble_eq_true rfl, Nat.le_of_ble_eq_true rfl⟩) hKc hP (hk.1 0 (by decide)) (cw_C0 ad cb _ _ _ _) rfl rfl hl.1 rfl (Nat.le_of_ble_eq_true rfl) dd_L_law_147 ⟨show cells ≤ 600000 by omega, show slots ≤ 7302250 by omega⟩ ?_
    refine lv_aload_n hx hb dd_L_law_150 rfl (lv_at hl 1 rfl) ?_
    refine lw_ld (k := 1) (A := fun q => s.heap.size ≤ q) hx hb hX hbl hbA hS hl (q0 := 3) (q3 := 0) rfl rfl (by omega) hL (by decide) dd_L_law_151 dd_L_law_152 dd_L_law_153 dd_L_law_154 dd_L_law_155 ?_
    refine lw_ld (k := 2) (A := fun q => s.heap.size ≤ q) hx hb hX hbl hbA hS hl (q0 := 3) (q3 := 0) rfl rfl (by omega) hL (by decide) dd_L_law_156 dd_L_law_157 dd_L_law_158 dd_L_law_159 dd_L_law_160 ?_
    have hMq := rc_queue l D ra ca hJr N O Z B hR.2.2.1.1.2.1 (xs (i + 1)) (xs (i + 2))
    rw [nm_queue_12 hq12] at hMq
    refine lx_m (As := [.int (xs (i + 1)), .int (xs (i + 2))]) (A0 := fun q => s.heap.size ≤ q) ⟨hx, hb, hml, hown, hts⟩ hMq (bg_cwV 2 hts tw_ml_L_25 tw_im_M_queue tw_se_M_queue tw_in_M tw_co_M_queue rfl rfl th_M_queue ⟨Nat.le_of_ble_eq_true rfl, Nat.le_of_ble_eq_true rfl⟩) hKr hQ hP (lw_ap2 hap) (fun q hq => by obtain ⟨k9, h9, rfl⟩ := hq; exact hs2 k9 h9) hS rfl hl.1 rfl (Nat.le_of_ble_eq_true rfl) dd_L_law_161 ⟨show cells ≤ 600000 by omega, show slots ≤ 7302250 by omega⟩ (fun H locs hQ hP hS => ?_)
    refine va_forget (fun q hq => hS.2.2 q hq) ?_
    have hS : va_S (fun q => s.heap.size ≤ q) s.heap H [] := ⟨hS.1, hS.2.1, fun q hq => (by cases hq)⟩
    refine lv_icmp_eq (tgt := 765) hx hb dd_L_law_164 rfl (fun _ => ?_) (fun h => absurd rfl h)
    refine W.widen (k := cells + 1) (n := slots + 11) (by omega) (by omega) ?_
    exact kk H ⟨ks, ad, cb, ra, ca, M, X, F, G, N, O, Z, B, rfl, rfl, hKc, hKr, hP, hQ, hJ, hJr, hs1, hs2, hap, hk, hk2, hR, hF⟩ hS
  have hnk : 8 + N 1 0 ∉ ks := fun z => by rcases hk2 _ z with q | q <;> omega
  have hlt : ∀ k, k ∈ ks → ad k < H.size := fun k hk9 => by
    obtain ⟨x, hx9⟩ := List.getElem?_of_mem hk9
    exact (hP x _ (cw_get hx9)).lt
  obtain ⟨ad2, had⟩ : ∃ ad2 : Nat → Nat, ad2 = va_up ad (8 + N 1 0) H.size := ⟨_, rfl⟩
  have hA1 : ∀ k, k ∈ ks → ad2 k = ad k := fun k hk9 => by rw [had]; exact va_up_ne _ _ (fun z => hnk (by rw [← z]; exact hk9))
  have hnew : ad2 (8 + N 1 0) = H.size := by rw [had, va_up_self]
  have hJ2 : cw_J (ks ++ [8 + N 1 0]) ad2 := by rw [had]; exact cw_J_up hJ hnk hlt
  have hJ1 : cw_J ks ad2 := fun x y a9 b9 p1 p2 p3 => hJ x y a9 b9 p1 p2 (by rw [← hA1 a9 (List.mem_of_getElem? p1), ← hA1 b9 (List.mem_of_getElem? p2)]; exact p3)
  have hP : va_P D vw_cl (cw_W ks ad2 cb M X F G) H := by rw [cw_W_cg hA1 hF]; exact hP
  have h00 : ad2 0 = ad 0 := hA1 0 (hk.1 0 (by decide))
  have hrl : ∀ f, f ∈ rf_u → ra f ≠ ad2 (8 + N 1 0) := fun f hf9 z => by
    obtain ⟨x, q, hx1, hx2⟩ := rf_at (N := N) (O := O) (Z := Z) (B := B) (ca := ca) (ra := ra) hf9
    have h9 := (hQ x q hx1).lt
    rw [hx2, z, hnew] at h9
    exact Nat.lt_irrefl _ h9
  have hap2 : ∀ k f, k ∈ ks → f ∈ rf_u → ad2 k ≠ ra f := fun k f h1 h2 => by rw [hA1 k h1]; exact hap k f h1 h2
  have hs12 : ∀ k, k ∈ ks → s.heap.size ≤ ad2 k := fun k h1 => by rw [hA1 k h1]; exact hs1 k h1
  rw [← h00] at hl
  have hR5 := mt_queue hk hk2 hR (q := bd_at (xs (i + 1)) (N 1 0)) (w := bd_wd (xs (i + 2))) (fun k h => bd_at_lt h (by omega)) (fun k h => bd_wd_lt h)
  have hU := cl_U_queue (M := M) (X := X) (G := G) hF hk (q := bd_at (xs (i + 1)) (N 1 0)) (fun k h => bd_at_lt h (by omega)) (bd_wd (xs (i + 2)))
  refine lv_aload_n hx hb dd_L_law_136 rfl (lv_at hl 2 rfl) ?_
  refine lw_ld (k := 1) (A := fun q => s.heap.size ≤ q) hx hb hX hbl hbA hS hl (q0 := 3) (q3 := 0) rfl rfl (by omega) hL (by decide) dd_L_law_137 dd_L_law_138 dd_L_law_139 dd_L_law_140 dd_L_law_141 ?_
  refine lw_ld (k := 2) (A := fun q => s.heap.size ≤ q) hx hb hX hbl hbA hS hl (q0 := 3) (q3 := 0) rfl rfl (by omega) hL (by decide) dd_L_law_142 dd_L_law_143 dd_L_law_144 dd_L_law_145 dd_L_law_146 ?_
  have hM9 := cc_D_queue l D ks ad2 cb hJ1 M X F G N O B hR.1 hk hR.2.2.2 hJ2 hnk (xs (i + 1)) (xs (i + 2))
  refine lx_n (nk := 8 + N 1 0) (As := [.int (xs (i + 1)), .int (xs (i + 2))]) (rest := []) (A0 := fun q => s.heap.size ≤ q) ⟨hx, hb, hml, hown, hts⟩ hM9 (bg_cwV 2 hts tw_ml_L_21 tw_im_D_queue tw_se_D_queue tw_in_D tw_co_D_queue rfl rfl th_D_queue ⟨Nat.le_of_ble_eq_true rfl, Nat.le_of_ble_eq_true rfl⟩) hnew.symm hKc hP hQ (lw_ap1 hap2 hJr) (fun q hq => by
    rcases hq with ⟨k9, h9, rfl⟩ | h9
    · exact hs12 k9 h9
    · have := hS.1
      show s.heap.size ≤ q
      omega) hS (hk.1 0 (by decide)) rfl hl.1 rfl (Nat.le_of_ble_eq_true rfl) dd_L_law_147 ⟨show cells + 1 ≤ 600000 by omega, show slots + 10 ≤ 7302250 by omega⟩ (fun H9 locs hP hQ hS9 => ?_)
  refine va_forget (fun q hq => hS9.2.2 q hq) ?_
  have hsn : s.heap.size ≤ ad2 (8 + N 1 0) := by rw [hnew]; exact hS.1
  have hS : va_S (fun q => s.heap.size ≤ q) s.heap H9 [] := ⟨hS9.1, hS9.2.1, fun q hq => (by cases hq)⟩
  have huin : ∀ k, k ∈ (_ : cw_T5).1 → k ∈ ks ∨ k = 8 + N 1 0 := fun k h9 => by
    rcases hU.1 with z | z
    · rw [z] at h9; exact Or.inl h9
    · rw [z] at h9; exact (List.mem_append.mp h9).imp id List.mem_singleton.mp
  have hap9 : ∀ k f, k ∈ (_ : cw_T5).1 → f ∈ rf_u → ad2 k ≠ ra f := fun k f h1 h2 => by
    rcases huin k h1 with z | z
    · exact hap2 k f z h2
    · rw [z]; exact fun q => hrl f h2 q.symm
  refine lv_aload_n hx hb dd_L_law_150 rfl (lv_at hl 1 rfl) ?_
  refine lw_ld (k := 1) (A := fun q => s.heap.size ≤ q) hx hb hX hbl hbA hS hl (q0 := 3) (q3 := 0) rfl rfl (by omega) hL (by decide) dd_L_law_151 dd_L_law_152 dd_L_law_153 dd_L_law_154 dd_L_law_155 ?_
  refine lw_ld (k := 2) (A := fun q => s.heap.size ≤ q) hx hb hX hbl hbA hS hl (q0 := 3) (q3 := 0) rfl rfl (by omega) hL (by decide) dd_L_law_156 dd_L_law_157 dd_L_law_158 dd_L_law_159 dd_L_law_160 ?_
  refine lx_m (As := [.int (xs (i + 1)), .int (xs (i + 2))]) (A0 := fun q => s.heap.size ≤ q) ⟨hx, hb, hml, hown, hts⟩ (rc_queue l D ra ca hJr N O Z B hR.2.2.1.1.2.1 (xs (i + 1)) (xs (i + 2))) (bg_cwV 2 hts tw_ml_L_25 tw_im_M_queue tw_se_M_queue tw_in_M tw_co_M_queue rfl rfl th_M_queue ⟨Nat.le_of_ble_eq_true rfl, Nat.le_of_ble_eq_true rfl⟩) hKr hQ hP (lw_ap2 hap9) (fun q hq => by obtain ⟨k9, h9, rfl⟩ := hq; exact hs2 k9 h9) hS rfl hl.1 rfl (Nat.le_of_ble_eq_true rfl) dd_L_law_161 ⟨show cells + 1 ≤ 600000 by omega, show slots + 10 ≤ 7302250 by omega⟩ (fun H locs hQ hP hS => ?_)
  refine va_forget (fun q hq => hS.2.2 q hq) ?_
  have hS : va_S (fun q => s.heap.size ≤ q) s.heap H [] := ⟨hS.1, hS.2.1, fun q hq => (by cases hq)⟩
  refine lv_icmp_eq (tgt := 765) hx hb dd_L_law_164 rfl (fun _ => ?_) (fun h => absurd rfl h)
  refine W.widen (k := cells + 1) (n := slots + 11) (by omega) (by omega) ?_
  exact kk H ⟨_, ad2, cb, ra, ca, _, _, _, _, _, _, _, _, h00, rfl, hKc, hKr, hP, hQ, (by rcases hU.1 with z | z <;> rw [z] <;> assumption), hJr, (fun k h1 => by
    rcases huin k h1 with z | z
    · exact hs12 k z
    · rw [z]; exact hsn), hs2, hap9, hR5.1, hR5.2.1, hR5.2.2, hU.2⟩ hS
