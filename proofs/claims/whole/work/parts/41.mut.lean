/-! Part 41: what enter, hold, cancel, retarget do keeps the relation. -/
/-- the whole relation -/
def cl_R (M : sp_N) (X : sp_B) (F : sp_O) (G : sp_Z) (N : sp_N) (O : sp_O) (Z : sp_Z) (B : sp_B) : Prop := cl_S M X F N O B ∧ cl_D M X F G N O Z B ∧ sp_V N O Z B ∧ cl_B M
section MT
variable {M : sp_N} {X : sp_B} {F : sp_O} {G : sp_Z} {N N' : sp_N} {O : sp_O} {Z : sp_Z} {B : sp_B}
theorem sp_u_n {α : Type} (K : Nat → Nat → α) {k f a b : Nat} (v : α) (h : a ≠ k ∨ b ≠ f) : sp_u K k f v a b = K a b := by
  rw [sp_u_app, if_neg (fun z => h.elim (fun q => q z.1) (fun q => q z.2))]
theorem sp_k_cg (h2 : N' 2 = N 2) : ∀ n y x, sp_k N' n y x = sp_k N n y x
  | 0, _, _ => rfl
  | n + 1, y, x => by
    unfold sp_k
    rw [h2, sp_k_cg h2 n]
theorem sp_l_cg (h2 : N' 2 = N 2) (y x : Nat) : sp_l N' y x = sp_l N y x := sp_k_cg h2 12 y x
theorem sp_v_cg (h8 : N' 8 = N 8) (t : Nat) : sp_v N' t = sp_v N t := by
  unfold sp_v
  rw [h8]
theorem sp_p_cg (h2 : N' 2 = N 2) (h6 : N' 6 = N 6) (h7 : N' 7 = N 7) (h8 : N' 8 = N 8) (x : Nat) : sp_p N' x = sp_p N x := by
  unfold sp_p
  rw [h6]
  exact sp_c_congr (fun t _ => by rw [sp_v_cg h8, sp_l_cg h2, h7])
theorem sp_w_cg (h6 : N' 6 = N 6) (h8 : N' 8 = N 8) : sp_w N' O = sp_w N O := by
  unfold sp_w
  rw [h6]
  exact sp_c_congr (fun t _ => by rw [sp_v_cg h8])
theorem sp_b_cg (h6 : N' 6 = N 6) (h7 : N' 7 = N 7) (h8 : N' 8 = N 8) (x : Nat) : sp_b N' B x = sp_b N B x := by
  unfold sp_b
  rw [h6, h7]
  exact sp_a_congr (fun t _ => by rw [sp_v_cg h8])
theorem sp_q_cg (h6 : N' 6 = N 6) (h7 : N' 7 = N 7) (h8 : N' 8 = N 8) (x : Nat) : sp_q N' x = sp_q N x := by
  unfold sp_q
  rw [h6, h7, h8]
theorem sp_om_cg (h6 : N' 6 = N 6) (h8 : N' 8 = N 8) (g : Nat) : sp_om N' O g = sp_om N O g := by
  unfold sp_om
  rw [h6, h8]
theorem sp_Tr_cg (h : sp_Tr N) (h1 : N' 1 = N 1) (h2 : N' 2 = N 2) : sp_Tr N' := by
  unfold sp_Tr sp_Rk at h ⊢
  rw [h1, h2]
  exact h
theorem sp_V_cg (h : sp_V N O Z B) (e1 : N' 1 = N 1) (e2 : N' 2 = N 2) (e6 : N' 6 = N 6) (e7 : N' 7 = N 7) (e8 : N' 8 = N 8) (e12 : N' 12 = N 12) (e16 : N' 16 = N 16) (e0 : N' 0 = N 0) (hB : sp_Bd N' O) (h3 : ∀ j, j < 3 → N' 4 j = 0 ∧ N' 3 j = 0) (h4 : ∀ j, N 1 0 ≤ j → N' 4 j = 0 ∧ N' 5 j = 0) (h5 : ∀ j, j < N 1 0 → sp_p N j ≤ N' 5 j) : sp_V N' O Z B := by
  obtain ⟨⟨a1, a2, a3⟩, b1, b2, c1, c2, d1, d2, d3, d4, f1, g1, g2, k1⟩ := h
  refine ⟨⟨sp_Tr_cg a1 e1 e2, hB, by rw [e0]; exact a3⟩, h3, by rw [e1]; exact h4, ?_, ?_, ?_, ?_, ?_, ?_, ?_, ?_, ?_, k1⟩
  · rw [e1, e6, e7]; exact c1
  · rw [e6]; exact c2
  · rw [e6, e8, e12, e16]; exact d1
  · rw [e6, e8, e16]; exact d2
  · rw [e6, e8, e12]; exact d3
  · intro t u ht hu hv hb hw h7
    rw [e6] at ht hu
    rw [sp_v_cg e8] at hv hw
    rw [e7] at h7
    exact d4 t u ht hu hv hb hw h7
  · intro j hj
    rw [e1] at hj
    rw [sp_p_cg e2 e6 e7 e8]
    exact h5 j hj
  · rw [e6, e8]; exact g1
  · rw [e6, e8]; exact g2
theorem cl_L_cg {j : Nat} {l : List Nat} (h : cl_L F N j l) (e6 : N' 6 = N 6) (e7 : N' 7 = N 7) (e8 : N' 8 = N 8) (e12 : N' 12 = N 12) : cl_L F N' j l := by
  unfold cl_L at h ⊢
  rw [e6, e7, e8, e12]
  exact h
theorem cl_S_cg (h : cl_S M X F N O B) (e1 : N' 1 = N 1) (e2 : N' 2 = N 2) (e6 : N' 6 = N 6) (e7 : N' 7 = N 7) : cl_S M X F N' O B := by
  obtain ⟨⟨a1, a2⟩, b⟩ := h
  refine ⟨⟨sp_Tr_cg a1 e1 e2, ?_⟩, ?_⟩
  · rw [e1, e6]; exact a2
  · rw [e1, e2, e6, e7]; exact b
/-- enter, and the count of leave -/
theorem mt_g (h : cl_R M X F G N O Z B) {k v : Nat} (hk : k < 4) (hv : v ≤ 200) : cl_R (sp_u M (4 + k) 0 v) X F G (sp_u N 17 k v) O Z B := by
  obtain ⟨hS, hD, hV, hB⟩ := h
  have e : ∀ f, f ≠ 17 → sp_u N 17 k v f = N f := fun f hf => sp_u_f N k v hf
  refine ⟨cl_S_cg (cl_S_Mg hS (sp_u_n _ _ (Or.inl (by omega))) (sp_u_n _ _ (Or.inl (by omega))) (fun j => sp_u_n _ _ (Or.inl (by omega))) (fun t => sp_u_n _ _ (Or.inl (by omega)))) (e 1 (by decide)) (e 2 (by decide)) (e 6 (by decide)) (e 7 (by decide)), ?_, sp_V_cg hV (e 1 (by decide)) (e 2 (by decide)) (e 6 (by decide)) (e 7 (by decide)) (e 8 (by decide)) (e 12 (by decide)) (e 16 (by decide)) (e 0 (by decide)) (sp_Bd_17 hV.1.2.1 _ _ hv) (by rw [e 4 (by decide), e 3 (by decide)]; exact hV.2.1) (by rw [e 4 (by decide), e 5 (by decide)]; exact hV.2.2.1) (by rw [e 5 (by decide)]; exact hV.2.2.2.2.2.2.2.2.2.1), cl_B_u hB (by omega)⟩
  obtain ⟨⟨a1, a2, a3, a4⟩, b, c, d⟩ := hD
  have n0 : ∀ f, sp_u M (4 + k) 0 v 0 f = M 0 f := fun f => sp_u_n _ _ (Or.inl (by omega))
  have n8 : ∀ j f, sp_u M (4 + k) 0 v (8 + j) f = M (8 + j) f := fun j f => sp_u_n _ _ (Or.inl (by omega))
  have n20 : ∀ j f, sp_u M (4 + k) 0 v (20 + j) f = M (20 + j) f := fun j f => sp_u_n _ _ (Or.inl (by omega))
  refine ⟨⟨?_, ?_, ?_, a4⟩, fun j hj => ?_, fun t ht => ?_, fun g hg => ?_⟩
  · rw [n0, e 0 (by decide)]; exact a1
  · rw [n0, sp_w_cg (e 6 (by decide)) (e 8 (by decide))]; exact a2
  · rw [n0, e 16 (by decide)]; exact a3
  · rw [e 1 (by decide)] at hj
    obtain ⟨b1, b2, b3, b4, b5, b6, l, hl⟩ := b j hj
    rw [n8, n8, n8, n8, n8, e 3 (by decide), e 4 (by decide), e 5 (by decide), sp_q_cg (e 6 (by decide)) (e 7 (by decide)) (e 8 (by decide)), sp_p_cg (e 2 (by decide)) (e 6 (by decide)) (e 7 (by decide)) (e 8 (by decide)), sp_b_cg (e 6 (by decide)) (e 7 (by decide)) (e 8 (by decide))]
    exact ⟨b1, b2, b3, b4, b5, b6, l, cl_L_cg hl (e 6 (by decide)) (e 7 (by decide)) (e 8 (by decide)) (e 12 (by decide))⟩
  · rw [n20, n20, e 8 (by decide), e 12 (by decide)]
    rw [e 6 (by decide)] at ht
    exact c t ht
  · rw [sp_om_cg (e 6 (by decide)) (e 8 (by decide)), sp_u_n (a := 4 + g) (b := 1) M v (Or.inr (by decide)), sp_u_app, sp_u_app]
    refine ⟨?_, (d g hg).2⟩
    by_cases hgk : g = k
    · rw [if_pos ⟨by omega, rfl⟩, if_pos ⟨rfl, hgk⟩]
    · rw [if_neg (fun z => hgk (by omega)), if_neg (fun z => hgk z.2)]
      exact (d g hg).1
/-- hold -/
theorem mt_hold (h : cl_R M X F G N O Z B) {a v : Nat} (h3 : 3 ≤ a) (ha : a < N 1 0) (hv : v ≤ 100) : cl_R (sp_u M (8 + a) 3 v) X F G (sp_u N 4 a v) O Z B := by
  obtain ⟨hS, hD, hV, hB⟩ := h
  have h12 := cl_12 hS
  have e : ∀ f, f ≠ 4 → sp_u N 4 a v f = N f := fun f hf => sp_u_f N a v hf
  have hBd : sp_Bd (sp_u N 4 a v) O := by
    obtain ⟨q0, q1, q2, q3, q4, q⟩ := hV.1.2.1
    refine ⟨q0, q1, q2, q3, fun j => ?_, q⟩
    rw [sp_u_app]
    split
    · exact hv
    · exact q4 j
  refine ⟨cl_S_cg (cl_S_M hS (by decide) (Or.inl (by omega))) (e 1 (by decide)) (e 2 (by decide)) (e 6 (by decide)) (e 7 (by decide)), ?_, sp_V_cg hV (e 1 (by decide)) (e 2 (by decide)) (e 6 (by decide)) (e 7 (by decide)) (e 8 (by decide)) (e 12 (by decide)) (e 16 (by decide)) (e 0 (by decide)) hBd (fun j hj => by rw [sp_u_n N v (Or.inr (by omega)), e 3 (by decide)]; exact hV.2.1 j hj) (fun j hj => by rw [sp_u_n N v (Or.inr (by omega)), e 5 (by decide)]; exact hV.2.2.1 j hj) (by rw [e 5 (by decide)]; exact hV.2.2.2.2.2.2.2.2.2.1), cl_B_u hB (by omega)⟩
  obtain ⟨⟨a1, a2, a3, a4⟩, b, c, d⟩ := hD
  have n0 : ∀ f, sp_u M (8 + a) 3 v 0 f = M 0 f := fun f => sp_u_n _ _ (Or.inl (by omega))
  have n8 : ∀ j f, f ≠ 3 → sp_u M (8 + a) 3 v (8 + j) f = M (8 + j) f := fun j f hf => sp_u_n _ _ (Or.inr hf)
  have n20 : ∀ j f, sp_u M (8 + a) 3 v (20 + j) f = M (20 + j) f := fun j f => sp_u_n _ _ (Or.inl (by omega))
  refine ⟨⟨?_, ?_, ?_, a4⟩, fun j hj => ?_, fun t ht => ?_, fun g hg => ?_⟩
  · rw [n0, e 0 (by decide)]; exact a1
  · rw [n0, sp_w_cg (e 6 (by decide)) (e 8 (by decide))]; exact a2
  · rw [n0, e 16 (by decide)]; exact a3
  · rw [e 1 (by decide)] at hj
    obtain ⟨b1, b2, b3, b4, b5, b6, l, hl⟩ := b j hj
    rw [n8 _ 1 (by decide), n8 _ 6 (by decide), n8 _ 7 (by decide), n8 _ 8 (by decide), e 3 (by decide), e 5 (by decide), sp_q_cg (e 6 (by decide)) (e 7 (by decide)) (e 8 (by decide)), sp_p_cg (e 2 (by decide)) (e 6 (by decide)) (e 7 (by decide)) (e 8 (by decide)), sp_b_cg (e 6 (by decide)) (e 7 (by decide)) (e 8 (by decide))]
    refine ⟨b1, ?_, b3, b4, b5, b6, l, cl_L_cg hl (e 6 (by decide)) (e 7 (by decide)) (e 8 (by decide)) (e 12 (by decide))⟩
    rw [sp_u_app, sp_u_app]
    by_cases hja : j = a
    · rw [if_pos ⟨by omega, rfl⟩, if_pos ⟨rfl, hja⟩]
    · rw [if_neg (fun z => hja (by omega)), if_neg (fun z => hja z.2)]
      exact b2
  · rw [n20, n20, e 8 (by decide), e 12 (by decide)]
    rw [e 6 (by decide)] at ht
    exact c t ht
  · rw [sp_om_cg (e 6 (by decide)) (e 8 (by decide)), e 17 (by decide), sp_u_n (a := 4 + g) (b := 1) M v (Or.inr (by decide)), sp_u_n (a := 4 + g) (b := 0) M v (Or.inr (by decide))]
    exact d g hg
/-- cancel -/
theorem mt_cancel (h : cl_R M X F G N O Z B) {a : Nat} (ha : a < N 6 0) : cl_R M (sp_u X (20 + a) 4 true) F G N O Z (sp_u B 15 a true) := by
  obtain ⟨hS, hD, hV, hB⟩ := h
  have e14 : sp_u B 15 a true 14 = B 14 := sp_u_f B a true (by decide)
  have h160 := cl_160 hS
  have h12 := cl_12 hS
  refine ⟨?_, ?_, ?_, hB⟩
  · have h1 := cl_S_X hS (k := 20 + a) (f := 4) (v := true) (by decide)
    unfold cl_S at h1 ⊢
    rw [e14]
    exact h1
  · obtain ⟨aa, b, c, d⟩ := hD
    refine ⟨aa, fun j hj => ?_, fun t ht => ?_, d⟩
    · rw [sp_u_n X true (Or.inr (by decide))]
      unfold sp_b
      rw [e14]
      exact b j hj
    · obtain ⟨c1, c2, c3⟩ := c t ht
      refine ⟨c1, ?_, c3⟩
      rw [sp_u_app, sp_u_app]
      by_cases hta : t = a
      · rw [if_pos ⟨by omega, rfl⟩, if_pos ⟨rfl, hta⟩]
      · rw [if_neg (fun z => hta (by omega)), if_neg (fun z => hta z.2)]
        exact c2
  · unfold sp_V at hV ⊢
    rw [e14]
    obtain ⟨a1, b1, b2, c1, c2, r⟩ := hV
    exact ⟨a1, b1, b2, c1, fun t ht => by rw [sp_u_n B true (Or.inr (by omega))]; exact c2 t ht, r⟩
/-- retarget: a queue that nothing passes through -/
theorem sp_l_mv (hT : sp_Tr N) (b : Nat) {a x : Nat} (hT' : sp_Tr (sp_u N 2 a b)) : ∀ y, y < N 1 0 → sp_l N y a = false → sp_l (sp_u N 2 a b) y x = sp_l N y x := by
  refine sp_ind hT (P := fun y => sp_l N y a = false → sp_l (sp_u N 2 a b) y x = sp_l N y x) (fun y hy hn => ?_) (fun y h3 hy ih hn => ?_)
  · have h3 := hT.1
    rw [sp_l_eq hT (by omega), sp_l_eq hT' (show y < sp_u N 2 a b 1 0 by rw [sp_u_n N b (Or.inl (by decide))]; omega), if_pos hy, if_pos hy]
  · have hya : y ≠ a := fun z => by rw [z, sp_l_self] at hn; cases hn
    rw [sp_l_eq hT hy, if_neg hya, if_neg (by omega)] at hn
    rw [sp_l_eq hT hy, sp_l_eq hT' (show y < sp_u N 2 a b 1 0 by rw [sp_u_n N b (Or.inl (by decide))]; omega), sp_u_n N b (Or.inr hya), ih hn]
theorem mt_retarget (h : cl_R M X F G N O Z B) {a b : Nat} (h3 : 3 ≤ a) (ha : a < N 1 0) (hb : b < N 1 0) (hn : sp_l N b a = false) (hp : sp_p N a = 0) : cl_R M X (sp_u F (8 + a) 2 (some (8 + b))) G (sp_u N 2 a b) O Z B := by
  obtain ⟨hS, hD, hV, hB⟩ := h
  have h12 := cl_12 hS
  have hT := cl_tr hS
  have hT' := sp_Tr_move hT h3 ha hb hn
  have e : ∀ f, f ≠ 2 → sp_u N 2 a b f = N f := fun f hf => sp_u_f N a b hf
  have hpp : ∀ x, sp_p (sp_u N 2 a b) x = sp_p N x := by
    intro x
    unfold sp_p
    rw [e 6 (by decide), e 7 (by decide)]
    refine sp_c_congr (fun t ht => ?_)
    rw [sp_v_cg (e 8 (by decide))]
    cases hv : sp_v N t with
    | false => rfl
    | true =>
      have h1 := sp_c_0.mp hp t ht
      rw [hv, Bool.true_and] at h1
      rw [sp_l_mv hT b hT' _ (cl_hl hS ht) h1]
  have nF : ∀ k f, f ≠ 2 → sp_u F (8 + a) 2 (some (8 + b)) k f = F k f := fun k f hf => sp_u_n _ _ (Or.inr hf)
  have nK : ∀ k f, k ≠ 8 + a → sp_u F (8 + a) 2 (some (8 + b)) k f = F k f := fun k f hf => sp_u_n _ _ (Or.inl hf)
  have hK : ∀ l, cl_K (sp_u F (8 + a) 2 (some (8 + b))) l ↔ cl_K F l := by
    intro l
    induction l with
    | nil => exact Iff.rfl
    | cons t r ih =>
      cases r with
      | nil =>
        show sp_u F (8 + a) 2 (some (8 + b)) (20 + t) 10 = none ↔ F (20 + t) 10 = none
        rw [nF _ _ (by decide)]
      | cons u r =>
        show (sp_u F (8 + a) 2 (some (8 + b)) (20 + t) 10 = some (20 + u) ∧ _) ↔ (F (20 + t) 10 = some (20 + u) ∧ _)
        rw [nF _ _ (by decide), ih]
  refine ⟨?_, ?_, ?_, hB⟩
  · obtain ⟨⟨a1, a2, a3, a4, a5⟩, b1, c1, d1, d2, d3, d4, d5, d6, d7⟩ := hS
    refine ⟨⟨hT', ?_, ?_, ?_, ?_⟩, fun j hj => ?_, fun t ht => ?_, ?_, ?_, ?_, ?_, ?_, ?_, ?_⟩
    · rw [e 6 (by decide)]; exact a2
    · rw [e 1 (by decide)]; exact a3
    · rw [e 6 (by decide)]; exact a4
    · rw [nK _ _ (by omega), nK _ _ (by omega), nK _ _ (by omega)]; exact a5
    · rw [e 1 (by decide)] at hj
      rw [nK _ _ (by omega)]
      refine ⟨(b1 j hj).1, (b1 j hj).2.1, ?_⟩
      rw [sp_u_app F, sp_u_app N]
      by_cases hja : j = a
      · rw [if_pos ⟨by omega, rfl⟩, if_neg (by omega), if_pos ⟨rfl, hja⟩]
      · rw [if_neg (fun z => hja (by omega)), show (if 2 = 2 ∧ j = a then b else N 2 j) = N 2 j from if_neg (fun z => hja z.2)]
        exact (b1 j hj).2.2
    · rw [e 6 (by decide)] at ht
      rw [nK _ _ (by omega), nK _ _ (by omega), nK _ _ (by omega), nK _ _ (by omega), e 7 (by decide), e 1 (by decide)]
      exact c1 t ht
    · rw [e 6 (by decide)]; exact d1
    · rw [e 6 (by decide)]; exact d2
    · intro g hg
      rw [nK _ _ (by omega)]; exact d3 g hg
    · intro j k hj hk
      rw [e 1 (by decide)] at hj
      rw [nF _ _ (by decide)] at hk
      rw [e 6 (by decide)]
      exact d4 j k hj hk
    · intro j k hj hk
      rw [e 1 (by decide)] at hj
      rw [nF _ _ (by decide)] at hk
      rw [e 6 (by decide)]
      exact d5 j k hj hk
    · intro t k ht hk
      rw [e 6 (by decide)] at ht ⊢
      rw [nF _ _ (by decide)] at hk
      exact d6 t k ht hk
    · intro t k ht hk
      rw [e 6 (by decide)] at ht
      rw [nF _ _ (by decide)] at hk
      exact d7 t k ht hk
  · obtain ⟨⟨a1, a2, a3, a4⟩, b1, c, d⟩ := hD
    refine ⟨⟨?_, ?_, ?_, a4⟩, fun j hj => ?_, fun t ht => ?_, fun g hg => ?_⟩
    · rw [e 0 (by decide)]; exact a1
    · rw [sp_w_cg (e 6 (by decide)) (e 8 (by decide))]; exact a2
    · rw [e 16 (by decide)]; exact a3
    · rw [e 1 (by decide)] at hj
      obtain ⟨q1, q2, q3, q4, q5, q6, l, hl⟩ := b1 j hj
      rw [e 3 (by decide), e 4 (by decide), e 5 (by decide), sp_q_cg (e 6 (by decide)) (e 7 (by decide)) (e 8 (by decide)), hpp, sp_b_cg (e 6 (by decide)) (e 7 (by decide)) (e 8 (by decide))]
      refine ⟨q1, q2, q3, q4, q5, q6, l, ?_⟩
      have h2 := cl_L_cg (N' := sp_u N 2 a b) hl (e 6 (by decide)) (e 7 (by decide)) (e 8 (by decide)) (e 12 (by decide))
      obtain ⟨l1, l2, l3, l4, l5⟩ := h2
      exact ⟨l1, l2, by rw [nF _ _ (by decide)]; exact l3, by rw [nF _ _ (by decide)]; exact l4, (hK l).mpr l5⟩
    · rw [e 6 (by decide)] at ht
      rw [e 8 (by decide), e 12 (by decide), nF _ 7 (by decide), nF _ 10 (by decide)]
      exact c t ht
    · rw [sp_om_cg (e 6 (by decide)) (e 8 (by decide)), e 17 (by decide)]
      exact d g hg
  · obtain ⟨⟨a1, a2, a3⟩, b1, b2, c1, c2, d1, d2, d3, d4, f1, g1, g2, k1⟩ := hV
    refine ⟨⟨hT', ?_, by rw [e 0 (by decide)]; exact a3⟩, ?_, ?_, ?_, ?_, ?_, ?_, ?_, ?_, ?_, ?_, ?_, k1⟩
    · obtain ⟨q0, q1, q2, q⟩ := a2
      refine ⟨q0, q1, fun j => ?_, q⟩
      rw [sp_u_app]
      split
      · omega
      · exact q2 j
    · rw [e 4 (by decide), e 3 (by decide)]; exact b1
    · rw [e 1 (by decide), e 4 (by decide), e 5 (by decide)]; exact b2
    · rw [e 1 (by decide), e 6 (by decide), e 7 (by decide)]; exact c1
    · rw [e 6 (by decide)]; exact c2
    · rw [e 6 (by decide), e 8 (by decide), e 12 (by decide), e 16 (by decide)]; exact d1
    · rw [e 6 (by decide), e 8 (by decide), e 16 (by decide)]; exact d2
    · rw [e 6 (by decide), e 8 (by decide), e 12 (by decide)]; exact d3
    · intro t u ht hu hv hb hw h7
      rw [e 6 (by decide)] at ht hu
      rw [sp_v_cg (e 8 (by decide))] at hv hw
      rw [e 7 (by decide)] at h7
      exact d4 t u ht hu hv hb hw h7
    · intro j hj
      rw [e 1 (by decide)] at hj
      rw [hpp, e 5 (by decide)]
      exact f1 j hj
    · rw [e 6 (by decide), e 8 (by decide)]; exact g1
    · rw [e 6 (by decide), e 8 (by decide)]; exact g2
end MT
