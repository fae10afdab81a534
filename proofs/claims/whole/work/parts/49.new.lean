/-! Part 49: a new block; submit, after, call, whenDone, queue. -/
section MN
variable {M : sp_N} {X : sp_B} {F F' : sp_O} {G : sp_Z} {N N' : sp_N} {O : sp_O} {Z : sp_Z} {B : sp_B} {t : Nat}
/-- the numbers with a new block of state 0 -/
def sp_n0 (N : sp_N) (a : Nat) : sp_N := sp_u (sp_AN N a) 8 (N 6 0) 0
theorem sp_n0_e (N : sp_N) (a : Nat) {f : Nat} (h6 : f ≠ 6) (h7 : f ≠ 7) (h8 : f ≠ 8) : sp_n0 N a f = N f := by
  unfold sp_n0 sp_AN
  rw [sp_u_f _ _ _ h8, sp_u_f _ _ _ h8, sp_u_f _ _ _ h7, sp_u_f _ _ _ h6]
theorem sp_n0_6 (N : sp_N) (a : Nat) : sp_n0 N a 6 0 = N 6 0 + 1 := by
  unfold sp_n0 sp_AN
  rw [sp_u_n _ _ (Or.inl (by decide)), sp_u_n _ _ (Or.inl (by decide)), sp_u_n _ _ (Or.inl (by decide)), sp_u_self]
theorem sp_n0_7 (N : sp_N) (a u : Nat) : sp_n0 N a 7 u = if u = N 6 0 then a else N 7 u := by
  unfold sp_n0
  rw [sp_u_n _ _ (Or.inl (by decide)), sp_AN_7]
theorem sp_n0_8 (N : sp_N) (a u : Nat) : sp_n0 N a 8 u = if u = N 6 0 then 0 else N 8 u := by
  unfold sp_n0 sp_AN
  rw [sp_u8]
  by_cases h : u = N 6 0
  · rw [if_pos h, if_pos h]
  · rw [if_neg h, if_neg h, sp_u8, if_neg h, sp_u_n _ _ (Or.inl (by decide)), sp_u_n _ _ (Or.inl (by decide))]
theorem sp_AO_o (N : sp_N) (O : sp_O) {f u : Nat} (h : u ≠ N 6 0) : sp_AO N O f u = O f u := by
  unfold sp_AO
  rw [sp_u_n _ _ (Or.inr h), sp_u_n _ _ (Or.inr h), sp_u_n _ _ (Or.inr h)]
theorem sp_AO_n (N : sp_N) (O : sp_O) {f : Nat} (h : f = 9 ∨ f = 10 ∨ f = 11) : sp_AO N O f (N 6 0) = none := by
  unfold sp_AO
  rw [sp_u_app, sp_u_app, sp_u_app]
  rcases h with h | h | h <;> rw [h] <;> simp
theorem sp_AO_le (N : sp_N) (O : sp_O) {f u k : Nat} (h : f = 9 ∨ f = 10 ∨ f = 11) (hz : sp_AO N O f u = some k) : u ≠ N 6 0 ∧ O f u = some k := by
  by_cases hu : u = N 6 0
  · rw [hu, sp_AO_n N O h] at hz; cases hz
  · rw [sp_AO_o N O hu] at hz; exact ⟨hu, hz⟩
theorem sp_c_new {P Q : Nat → Bool} {n : Nat} (h : ∀ u, u < n → P u = Q u) (hn : P n = false) : sp_c P (n + 1) = sp_c Q n := by
  show sp_c P n + (if P n = true then 1 else 0) = _
  rw [hn, sp_c_congr h]
  rfl
theorem sp_a_new {P Q : Nat → Bool} {n : Nat} (h : ∀ u, u < n → P u = Q u) (hn : P n = false) : sp_a P (n + 1) = sp_a Q n := by
  show (sp_a P n || P n) = _
  rw [hn, sp_a_congr h, Bool.or_false]
theorem mt_new (h : cl_R M X F G N O Z B) (h160 : N 6 0 < 160) {a : Nat} (ha : a < N 1 0) (bar : Bool) : cl_R (cs_AM M (N 6 0)) (cs_nX X (N 6 0) (bar && decide (3 ≤ a))) (cs_AF F (N 6 0) a) (cs_nG G (N 6 0)) (sp_n0 N a) (sp_AO N O) Z (sp_AB N B a bar) := by
  obtain ⟨hS, hD, hV, hB⟩ := h
  have h12 := cl_12 hS
  have e : ∀ f, f ≠ 6 → f ≠ 7 → f ≠ 8 → sp_n0 N a f = N f := fun f x y z => sp_n0_e N a x y z
  have e1 := e 1 (by decide) (by decide) (by decide)
  have e2 := e 2 (by decide) (by decide) (by decide)
  have e12 := e 12 (by decide) (by decide) (by decide)
  have e6 := sp_n0_6 N a
  have o7 : ∀ u, u < N 6 0 → sp_n0 N a 7 u = N 7 u := fun u hu => by rw [sp_n0_7, if_neg (by omega)]
  have o8 : ∀ u, u < N 6 0 → sp_n0 N a 8 u = N 8 u := fun u hu => by rw [sp_n0_8, if_neg (by omega)]
  have n8 : sp_n0 N a 8 (N 6 0) = 0 := by rw [sp_n0_8, if_pos rfl]
  have n7 : sp_n0 N a 7 (N 6 0) = a := by rw [sp_n0_7, if_pos rfl]
  have oO : ∀ f u, u < N 6 0 → sp_AO N O f u = O f u := fun f u hu => sp_AO_o N O (by omega)
  have oB : ∀ f u, u ≠ N 6 0 ∨ f ≠ 14 → sp_AB N B a bar f u = B f u := fun f u hu => by
    unfold sp_AB
    exact sp_u_n _ _ (hu.elim Or.inr Or.inl)
  have nB : sp_AB N B a bar 14 (N 6 0) = (bar && decide (3 ≤ a)) := by
    unfold sp_AB
    exact sp_u_self ..
  have ov : ∀ u, u < N 6 0 → sp_v (sp_n0 N a) u = sp_v N u := fun u hu => by unfold sp_v; rw [o8 u hu]
  have nv : sp_v (sp_n0 N a) (N 6 0) = false := by unfold sp_v; rw [n8]; rfl
  have hp : ∀ x, sp_p (sp_n0 N a) x = sp_p N x := fun x => by
    unfold sp_p
    rw [e6]
    exact sp_c_new (fun u hu => by rw [ov u hu, o7 u hu, sp_l_cg e2]) (by rw [nv]; rfl)
  have hw : sp_w (sp_n0 N a) (sp_AO N O) = sp_w N O := by
    unfold sp_w
    rw [e6]
    exact sp_c_new (fun u hu => by rw [ov u hu, oO 9 u hu]) (by rw [nv]; rfl)
  have hb : ∀ x, sp_b (sp_n0 N a) (sp_AB N B a bar) x = sp_b N B x := fun x => by
    unfold sp_b
    rw [e6]
    exact sp_a_new (fun u hu => by rw [ov u hu, o7 u hu, oB 14 u (Or.inl (by omega))]) (by rw [nv]; rfl)
  have hq : ∀ x, sp_q (sp_n0 N a) x = sp_q N x := fun x => by
    unfold sp_q
    rw [e6]
    exact sp_c_new (fun u hu => by rw [o8 u hu, o7 u hu]) (by rw [n8]; rfl)
  have hom : ∀ g, sp_om (sp_n0 N a) (sp_AO N O) g = sp_om N O g := fun g => by
    unfold sp_om
    rw [e6]
    exact sp_c_new (fun u hu => by rw [o8 u hu, oO 10 u hu]) (by rw [sp_AO_n N O (Or.inr (Or.inl rfl))]; rfl)
  have hS2 : cl_S (cs_AM M (N 6 0)) (cs_nX X (N 6 0) (bar && decide (3 ≤ a))) (cs_AF F (N 6 0) a) (sp_n0 N a) (sp_AO N O) (sp_AB N B a bar) := by
    refine cl_S_cg (cl_S_A hS h160 ha bar) ?_ ?_ ?_ ?_
    · unfold sp_n0; exact sp_u_f _ _ _ (by decide)
    · unfold sp_n0; exact sp_u_f _ _ _ (by decide)
    · unfold sp_n0; exact sp_u_f _ _ _ (by decide)
    · unfold sp_n0; exact sp_u_f _ _ _ (by decide)
  refine ⟨hS2, ?_, ?_, ?_⟩
  · obtain ⟨⟨a1, a2, a3, a4⟩, b, c, d⟩ := hD
    refine ⟨⟨?_, ?_, ?_, ?_⟩, fun j hj => ?_, fun u hu => ?_, fun g hg => ?_⟩
    · rw [cs_AM_0 M _ (by omega) (by omega), e 0 (by decide) (by decide) (by decide)]; exact a1
    · rw [cs_AM_0 M _ (by omega) (by omega), hw]; exact a2
    · rw [cs_AM_0 M _ (by omega) (by omega), e 16 (by decide) (by decide) (by decide)]; exact a3
    · rw [cs_nG_ne G _ (by omega)]; exact a4
    · rw [e1] at hj
      obtain ⟨q1, q2, q3, q4, q5, q6, l, hl⟩ := b j hj
      rw [cs_AM_0 M _ (by omega) (by omega), cs_AM_0 M _ (by omega) (by omega), cs_AM_0 M _ (by omega) (by omega), cs_AM_0 M _ (by omega) (by omega), cs_AM_0 M _ (by omega) (by omega), cs_nX_ne X _ _ (by omega), e 3 (by decide) (by decide) (by decide), e 4 (by decide) (by decide) (by decide), e 5 (by decide) (by decide) (by decide), hq, hp, hb]
      refine ⟨q1, q2, q3, q4, q5, q6, l, fun u => ?_, ?_, ?_, ?_, ?_⟩
      · rw [hl.1 u, e6]
        constructor
        · rintro ⟨z1, z2, z3⟩
          exact ⟨by omega, by rw [o8 u z1]; exact z2, by rw [o7 u z1]; exact z3⟩
        · rintro ⟨z1, z2, z3⟩
          by_cases hu : u = N 6 0
          · rw [hu, n8] at z2; cases z2
          · have hu2 : u < N 6 0 := by omega
            rw [o8 u hu2] at z2
            rw [o7 u hu2] at z3
            exact ⟨hu2, z2, z3⟩
      · rw [e12]; exact hl.2.1
      · rw [cs_AF_0 F _ _ (by omega) (by omega)]; exact hl.2.2.1
      · rw [cs_AF_0 F _ _ (by omega) (by omega)]; exact hl.2.2.2.1
      · exact cl_K_cg (fun v hv => by
          have hv6 := ((hl.1 v).mp hv).1
          exact cs_AF_0 F _ _ (by omega) (by omega)) hl.2.2.2.2
    · rw [e6] at hu
      by_cases hun : u = N 6 0
      · rw [hun, cs_AM_b, cs_nX_b, n8, sp_AO_n N O (Or.inr (Or.inr rfl)), cs_AF_b, cs_AF_b, oB 15 _ (Or.inr (by decide)), hV.2.2.2.2.1 _ (Nat.le_refl _)]
        exact ⟨rfl, rfl, fun _ => rfl, fun z => (by cases z), fun z => (by cases z), fun _ => rfl⟩
      · have hu2 : u < N 6 0 := by omega
        rw [cs_AM_0 M _ (by omega) (by omega), cs_AM_0 M _ (by omega) (by omega), cs_nX_ne X _ _ (by omega), cs_AF_0 F _ _ (by omega) (by omega), cs_AF_0 F _ _ (by omega) (by omega), cs_nG_ne G _ (by omega), o8 u hu2, oO 11 u hu2, oB 15 u (Or.inl hun), e12]
        exact c u hu2
    · rw [cs_AM_0 M _ (by omega) (by omega), cs_AM_0 M _ (by omega) (by omega), hom, e 17 (by decide) (by decide) (by decide)]
      exact d g hg
  · obtain ⟨⟨a1, a2, a3⟩, b1, b2, c1, c2, d1, d2, d3, d4, f1, g1, g2, k1⟩ := hV
    refine ⟨⟨sp_Tr_cg a1 e1 e2, ?_, by rw [e 0 (by decide) (by decide) (by decide)]; exact a3⟩, ?_, ?_, fun u hu => ?_, fun u hu => ?_, fun u hu h2 => ?_, ?_, ?_, ?_, ?_, ?_, ?_, k1⟩
    · obtain ⟨q0, q1, q2, q3, q4, q5, q6, q7, q8, q9, q10, q11, q12, q17⟩ := a2
      refine ⟨by rw [e 0 (by decide) (by decide) (by decide)]; exact q0, by rw [e1]; exact q1, by rw [e2]; exact q2, by rw [e 3 (by decide) (by decide) (by decide)]; exact q3, by rw [e 4 (by decide) (by decide) (by decide)]; exact q4, by rw [e 5 (by decide) (by decide) (by decide)]; exact q5, by rw [e6]; omega, fun u => ?_, fun u => ?_, fun u k hz => q9 u k (sp_AO_le N O (Or.inl rfl) hz).2, fun u k hz => q10 u k (sp_AO_le N O (Or.inr (Or.inl rfl)) hz).2, fun u k hz => q11 u k (sp_AO_le N O (Or.inr (Or.inr rfl)) hz).2, by rw [e12]; exact q12, by rw [e 17 (by decide) (by decide) (by decide)]; exact q17⟩
      · rw [sp_n0_7]
        split
        · omega
        · exact q7 u
      · rw [sp_n0_8]
        split
        · decide
        · exact q8 u
    · rw [e 4 (by decide) (by decide) (by decide), e 3 (by decide) (by decide) (by decide)]; exact b1
    · rw [e1, e 4 (by decide) (by decide) (by decide), e 5 (by decide) (by decide) (by decide)]; exact b2
    · rw [e6] at hu
      rw [e1]
      by_cases hun : u = N 6 0
      · rw [hun, n7, nB, sp_AO_n N O (Or.inl rfl)]
        exact ⟨ha, fun z => by
          rw [Bool.and_eq_true] at z
          exact of_decide_eq_true z.2, fun c z => by cases z⟩
      · have hu2 : u < N 6 0 := by omega
        rw [o7 u hu2, oB 14 u (Or.inl hun), oO 9 u hu2]
        exact c1 u hu2
    · rw [e6] at hu
      rw [oB 15 u (Or.inr (by decide))]
      exact c2 u (by omega)
    · rw [e6] at hu
      have hun : u ≠ N 6 0 := fun z => by rw [z, n8] at h2; omega
      have hu2 : u < N 6 0 := by omega
      rw [o8 u hu2] at h2
      rw [e12, e 16 (by decide) (by decide) (by decide)]
      exact d1 u hu2 h2
    · rw [e 16 (by decide) (by decide) (by decide), d2, e6]
      exact (sp_c_new (fun u hu => by rw [o8 u hu]) (by rw [n8]; rfl)).symm
    · intro u w hu hw hu8 hw8 hh
      rw [e6] at hu hw
      have hun : u ≠ N 6 0 := fun z => by rw [z, n8] at hu8; cases hu8
      have hwn : w ≠ N 6 0 := fun z => by rw [z, n8] at hw8; cases hw8
      rw [o8 u (by omega)] at hu8
      rw [o8 w (by omega)] at hw8
      rw [e12] at hh
      exact d3 u w (by omega) (by omega) hu8 hw8 hh
    · intro u w hu hw hv1 hbu hv2 h7
      rw [e6] at hu hw
      have hun : u ≠ N 6 0 := fun z => by rw [z, nv] at hv1; cases hv1
      have hwn : w ≠ N 6 0 := fun z => by rw [z, nv] at hv2; cases hv2
      rw [ov u (by omega)] at hv1
      rw [ov w (by omega)] at hv2
      rw [o7 u (by omega), o7 w (by omega)] at h7
      rw [oB 14 u (Or.inl hun)] at hbu
      exact d4 u w (by omega) (by omega) hv1 hbu hv2 h7
    · intro j hj
      rw [e1] at hj
      rw [hp, e 5 (by decide) (by decide) (by decide)]
      exact f1 j hj
    · intro u c hu ho h5
      rw [e6] at hu
      obtain ⟨hun, ho2⟩ := sp_AO_le N O (Or.inl rfl) ho
      have hu2 : u < N 6 0 := by omega
      have hcu := (c1 u hu2).2.2 c ho2
      rw [o8 u hu2] at h5
      rw [o8 c (by omega)]
      exact g1 u c hu2 ho2 h5
    · intro u w c hu hw ho1 ho2 h1 h2
      rw [e6] at hu hw
      obtain ⟨hun, ho1⟩ := sp_AO_le N O (Or.inl rfl) ho1
      obtain ⟨hwn, ho2⟩ := sp_AO_le N O (Or.inl rfl) ho2
      rw [o8 u (by omega)] at h1
      rw [o8 w (by omega)] at h2
      exact g2 u w c (by omega) (by omega) ho1 ho2 h1 h2
  · intro k f
    by_cases hk : k = 20 + N 6 0
    · rw [hk, cs_AM_b]
      split <;> omega
    · by_cases hf : k = 0 ∧ f = 5
      · rw [hf.1, hf.2, cs_AM, sp_u_self]; omega
      · rw [cs_AM_0 M _ hk hf]; exact hB k f
end MN
