/-! Part 44: the end of a block, as finish and begin share it. -/
section ME
variable {M : sp_N} {X : sp_B} {F F' : sp_O} {G : sp_Z} {N N' : sp_N} {O : sp_O} {Z : sp_Z} {B : sp_B}
def sp_E2 (N : sp_N) (O : sp_O) (t how : Nat) : sp_N := sp_C (sp_u N 8 t how) O t
theorem sp_E2_e (N : sp_N) (O : sp_O) (t how : Nat) {f : Nat} (h8 : f ≠ 8) : sp_E2 N O t how f = N f := by
  unfold sp_E2 sp_C
  cases O 9 t with
  | none => exact sp_u_f _ _ _ h8
  | some c => exact (sp_u_f _ _ _ h8).trans (sp_u_f _ _ _ h8)
theorem sp_E2_8 (N : sp_N) (O : sp_O) (t how u : Nat) : sp_E2 N O t how 8 u = if O 9 t = some u then 3 else if u = t then how else N 8 u := by
  unfold sp_E2 sp_C
  have h1 : sp_u N 8 t how 8 u = if u = t then how else N 8 u := by
    rw [sp_u_app]
    by_cases h : u = t
    · rw [if_pos ⟨rfl, h⟩, if_pos h]
    · rw [if_neg (fun z => h z.2), if_neg h]
  cases ho : O 9 t with
  | none => rw [if_neg (fun z => by cases z)]; exact h1
  | some c =>
    show sp_u (sp_u N 8 t how) 8 c 3 8 u = _
    rw [sp_u_app]
    by_cases h : u = c
    · rw [if_pos ⟨rfl, h⟩, if_pos (by rw [h])]
    · rw [if_neg (fun z => h z.2), if_neg (fun z => h (Option.some.inj z).symm), h1]
/-- the end of a block at the level of the numbers -/
theorem sp_V_E2 (hV : sp_V N O Z B) {t how : Nat} (ht : t < N 6 0) (h8 : N 8 t = 2 ∨ N 8 t = 3) (hh : how = 5 ∨ how = 6) : sp_V (sp_E2 N O t how) O Z B := by
  have e : ∀ f, f ≠ 8 → sp_E2 N O t how f = N f := fun f a => sp_E2_e N O t how a
  have e1 := e 1 (by decide)
  have e2 := e 2 (by decide)
  have e6 := e 6 (by decide)
  have e7 := e 7 (by decide)
  have e0 := e 0 (by decide)
  have e12 := e 12 (by decide)
  have e16 := e 16 (by decide)
  obtain ⟨⟨a1, a2, a3⟩, b1, b2, c1, c2, d1, d2, d3, d4, f1, g1, g2, k1⟩ := hV
  have hc4 : ∀ u, O 9 t = some u → N 8 u = 4 := fun u hu => g1 t u ht hu (by omega)
  have hval : ∀ u, (O 9 t = some u ∧ N 8 u = 4 ∧ u ≠ t ∧ sp_E2 N O t how 8 u = 3) ∨ (u = t ∧ sp_E2 N O t how 8 u = how) ∨ (u ≠ t ∧ O 9 t ≠ some u ∧ sp_E2 N O t how 8 u = N 8 u) := by
    intro u
    rw [sp_E2_8]
    by_cases h1 : O 9 t = some u
    · have h2 := hc4 u h1
      exact Or.inl ⟨h1, h2, fun z => by rw [z] at h2; omega, by rw [if_pos h1]⟩
    · rw [if_neg h1]
      by_cases h2 : u = t
      · exact Or.inr (Or.inl ⟨h2, by rw [if_pos h2]⟩)
      · exact Or.inr (Or.inr ⟨h2, h1, by rw [if_neg h2]⟩)
  have hvm : ∀ u, sp_v (sp_E2 N O t how) u = true → sp_v N u = true := by
    intro u
    unfold sp_v
    rcases hval u with ⟨_, q2, _, q4⟩ | ⟨q1, q2⟩ | ⟨_, _, q3⟩
    · intro _; rw [q2]; rfl
    · rw [q2]
      intro hz
      rcases hh with hh | hh <;> rw [hh] at hz <;> cases hz
    · rw [q3]; exact id
  refine ⟨⟨sp_Tr_cg a1 e1 e2, ?_, by rw [e0]; exact a3⟩, ?_, ?_, ?_, ?_, ?_, ?_, ?_, ?_, ?_, ?_, ?_, k1⟩
  · obtain ⟨q0, q1, q2, q3, q4, q5, q6, q7, q8, q9, q10, q11, q12, q17⟩ := a2
    refine ⟨by rw [e0]; exact q0, by rw [e1]; exact q1, by rw [e2]; exact q2, by rw [e 3 (by decide)]; exact q3, by rw [e 4 (by decide)]; exact q4, by rw [e 5 (by decide)]; exact q5, by rw [e6]; exact q6, by rw [e7]; exact q7, fun u => ?_, q9, q10, q11, by rw [e12]; exact q12, by rw [e 17 (by decide)]; exact q17⟩
    rcases hval u with ⟨_, _, _, q⟩ | ⟨_, q⟩ | ⟨_, _, q⟩ <;> rw [q]
    · decide
    · omega
    · exact q8 u
  · rw [e 4 (by decide), e 3 (by decide)]; exact b1
  · rw [e1, e 4 (by decide), e 5 (by decide)]; exact b2
  · rw [e1, e6, e7]; exact c1
  · rw [e6]; exact c2
  · intro u hu h2
    rw [e6] at hu
    rw [e12, e16]
    refine d1 u hu ?_
    rcases hval u with ⟨_, q, _, _⟩ | ⟨q, _⟩ | ⟨_, _, q⟩
    · omega
    · rw [q]; omega
    · omega
  · rw [e16, d2, e6]
    refine sp_c_congr (fun u _ => decide_eq_decide.mpr ?_)
    rcases hval u with ⟨_, q, _, q2⟩ | ⟨q, q2⟩ | ⟨_, _, q⟩
    · omega
    · rw [q2, q]; omega
    · rw [q]
  · intro u w hu hw hu8 hw8 h12
    rw [e6] at hu hw
    rw [e12] at h12
    refine d3 u w hu hw ?_ ?_ h12
    · rcases hval u with ⟨_, _, _, q⟩ | ⟨_, q⟩ | ⟨_, _, q⟩ <;> omega
    · rcases hval w with ⟨_, _, _, q⟩ | ⟨_, q⟩ | ⟨_, _, q⟩ <;> omega
  · intro u w hu hw hvu hb hvw h7
    rw [e6] at hu hw
    rw [e7] at h7
    exact d4 u w hu hw (hvm u hvu) hb (hvm w hvw) h7
  · intro j hj
    rw [e1] at hj
    rw [e 5 (by decide)]
    refine Nat.le_trans ?_ (f1 j hj)
    unfold sp_p
    rw [e6, e7]
    refine sp_c_mono (fun u _ hz => ?_)
    rw [Bool.and_eq_true] at hz ⊢
    rw [sp_l_cg e2] at hz
    exact ⟨hvm u hz.1, hz.2⟩
  · intro u c hu ho h5
    rw [e6] at hu
    have hu5 : N 8 u < 5 ∧ u ≠ t := by
      rcases hval u with ⟨_, q, q2, _⟩ | ⟨_, q⟩ | ⟨q2, _, q⟩
      · exact ⟨by omega, q2⟩
      · omega
      · exact ⟨by omega, q2⟩
    have h4 := g1 u c hu ho hu5.1
    rcases hval c with ⟨q, _, _, _⟩ | ⟨q, _⟩ | ⟨_, _, q⟩
    · exact absurd (g2 u t c hu ht ho q hu5.1 (by omega)) hu5.2
    · rw [q] at h4; omega
    · rw [q]; exact h4
  · intro u w c hu hw ho1 ho2 h1 h2
    rw [e6] at hu hw
    refine g2 u w c hu hw ho1 ho2 ?_ ?_
    · rcases hval u with ⟨_, q, _, _⟩ | ⟨_, q⟩ | ⟨_, _, q⟩ <;> omega
    · rcases hval w with ⟨_, q, _, _⟩ | ⟨_, q⟩ | ⟨_, _, q⟩ <;> omega
/-- what the class's maps keep between, with the block's state set -/
def cl_M (M : sp_N) (X : sp_B) (F : sp_O) (G : sp_Z) (N : sp_N) (O : sp_O) (Z : sp_Z) (B : sp_B) (t how : Nat) : Prop :=
  (M 0 0 = N 0 0 ∧ M 0 6 = sp_w (sp_u N 8 t how) O ∧ M 0 7 = N 16 0 ∧ G 0 8 = Z 18 0) ∧
  (∀ j, j < N 1 0 → M (8 + j) 1 = N 3 j ∧ M (8 + j) 3 = N 4 j ∧ M (8 + j) 6 = sp_q (sp_u N 8 t how) j ∧ M (8 + j) 7 = sp_p (sp_u N 8 t how) j ∧ M (8 + j) 8 = N 5 j ∧ X (8 + j) 9 = sp_b (sp_u N 8 t how) B j ∧ ∃ l, cl_L F (sp_u N 8 t how) j l) ∧
  (∀ u, u < N 6 0 → (u ≠ t → M (20 + u) 3 = N 8 u) ∧ X (20 + u) 4 = B 15 u ∧ (N 8 u = 0 → F (20 + u) 7 = (O 11 u).map (fun g => 4 + g)) ∧ (N 8 u = 1 → G (20 + u) 8 = Z 13 u) ∧ (N 8 u = 2 → M (20 + u) 9 = N 12 u) ∧ (N 8 u < 2 → F (20 + u) 10 = none)) ∧
  (∀ g, g < 4 → M (4 + g) 0 = N 17 g ∧ M (4 + g) 1 = sp_om N O g)
theorem sp_u8 (N : sp_N) (t how u : Nat) : sp_u N 8 t how 8 u = if u = t then how else N 8 u := by
  rw [sp_u_app]
  by_cases h : u = t
  · rw [if_pos ⟨rfl, h⟩, if_pos h]
  · rw [if_neg (fun z => h z.2), if_neg h]
/-- the maps with the states of the block and its caller, and the group's count -/
def cs_K (M : sp_N) (O : sp_O) (F : sp_O) (t how : Nat) : sp_N := match O 10 t with
  | none => cs_c1 M F t how
  | some g => sp_u (cs_c1 M F t how) (4 + g) 1 (M (4 + g) 1 - 1)
theorem cs_c1_3 (hS : cl_S M X F N O B) {t : Nat} (ht : t < N 6 0) (how u : Nat) : cs_c1 M F t how (20 + u) 3 = if O 9 t = some u then 3 else if u = t then how else M (20 + u) 3 := by
  have h1 : sp_u M (20 + t) 3 how (20 + u) 3 = if u = t then how else M (20 + u) 3 := by
    rw [sp_u_app]
    by_cases h : u = t
    · rw [if_pos ⟨by omega, rfl⟩, if_pos h]
    · rw [if_neg (fun z => h (by omega)), if_neg h]
  unfold cs_c1
  rw [(hS.2.2.1 t ht).2.2.2.2.2.1]
  cases ho : O 9 t with
  | none => rw [if_neg (fun z => by cases z)]; exact h1
  | some c =>
    show sp_u (sp_u M (20 + t) 3 how) (20 + c) 3 3 (20 + u) 3 = _
    rw [sp_u_app]
    by_cases h : u = c
    · rw [if_pos ⟨by omega, rfl⟩, if_pos (by rw [h])]
    · rw [if_neg (fun z => h (by omega)), if_neg (fun z => h (Option.some.inj z).symm), h1]
theorem cs_c1_o (M : sp_N) (F : sp_O) (t how : Nat) {k f : Nat} (hf : f ≠ 3) : cs_c1 M F t how k f = M k f := by
  unfold cs_c1
  cases F (20 + t) 5 with
  | none => exact sp_u_n _ _ (Or.inr hf)
  | some c => exact (sp_u_n _ _ (Or.inr hf)).trans (sp_u_n _ _ (Or.inr hf))
theorem cs_c1_k (hS : cl_S M X F N O B) {t : Nat} (ht : t < N 6 0) (how : Nat) {k f : Nat} (hk : k < 20) : cs_c1 M F t how k f = M k f := by
  unfold cs_c1
  rw [(hS.2.2.1 t ht).2.2.2.2.2.1]
  cases O 9 t with
  | none => exact sp_u_n _ _ (Or.inl (by omega))
  | some c => exact (sp_u_n _ _ (Or.inl (show k ≠ 20 + c by omega))).trans (sp_u_n _ _ (Or.inl (by omega)))
theorem mt_K {t how : Nat} (hS : cl_S M X F N O B) (hM : cl_M M X F G N O Z B t how) (hV : sp_V N O Z B) (hB : cl_B M) (ht : t < N 6 0) (h8 : N 8 t = 2 ∨ N 8 t = 3) (hh : how = 5 ∨ how = 6) : cl_R (cs_K M O F t how) X F G (sp_E2 N O t how) O Z B := by
  have h12 := cl_12 hS
  have hg4 := hS.2.2.2.2.1 t
  have e : ∀ f, f ≠ 8 → sp_E2 N O t how f = N f := fun f a => sp_E2_e N O t how a
  have u' : ∀ f, f ≠ 8 → sp_u N 8 t how f = N f := fun f a => sp_u_f N t how a
  have e1 := e 1 (by decide)
  have e2 := e 2 (by decide)
  have e6 := e 6 (by decide)
  have e7 := e 7 (by decide)
  have e12 := e 12 (by decide)
  have f6 : sp_E2 N O t how 6 = sp_u N 8 t how 6 := by rw [e6, u' 6 (by decide)]
  have f7 : sp_E2 N O t how 7 = sp_u N 8 t how 7 := by rw [e7, u' 7 (by decide)]
  have f2 : sp_E2 N O t how 2 = sp_u N 8 t how 2 := by rw [e2, u' 2 (by decide)]
  have g1 := hV.2.2.2.2.2.2.2.2.2.2.1
  have hc4 : ∀ u, O 9 t = some u → N 8 u = 4 ∧ u ≠ t := fun u hu => by
    have h1 := g1 t u ht hu (by omega)
    exact ⟨h1, fun z => by rw [z] at h1; omega⟩
  have hv : ∀ u, u < sp_u N 8 t how 6 0 → sp_v (sp_E2 N O t how) u = sp_v (sp_u N 8 t how) u := by
    intro u _
    unfold sp_v
    rw [sp_E2_8, sp_u8]
    by_cases h1 : O 9 t = some u
    · rw [if_pos h1, if_neg (hc4 u h1).2, (hc4 u h1).1]; rfl
    · rw [if_neg h1]
  have h2' : ∀ u, (sp_E2 N O t how 8 u = 2 ↔ sp_u N 8 t how 8 u = 2) := by
    intro u
    rw [sp_E2_8, sp_u8]
    by_cases h1 : O 9 t = some u
    · rw [if_pos h1, if_neg (hc4 u h1).2, (hc4 u h1).1]; omega
    · rw [if_neg h1]
  have k20 : ∀ u, cs_K M O F t how (20 + u) 3 = if O 9 t = some u then 3 else if u = t then how else M (20 + u) 3 := by
    intro u
    unfold cs_K
    cases ho : O 10 t with
    | none => exact cs_c1_3 hS ht how u
    | some g => exact (sp_u_n _ _ (Or.inr (by decide))).trans (cs_c1_3 hS ht how u)
  have ko : ∀ k f, f ≠ 3 → ¬ (f = 1 ∧ ∃ g, O 10 t = some g ∧ k = 4 + g) → cs_K M O F t how k f = M k f := by
    intro k f hf hf1
    unfold cs_K
    cases ho : O 10 t with
    | none => exact cs_c1_o M F t how hf
    | some g =>
      rw [show (match some g with | none => cs_c1 M F t how | some g => sp_u (cs_c1 M F t how) (4 + g) 1 (M (4 + g) 1 - 1)) = sp_u (cs_c1 M F t how) (4 + g) 1 (M (4 + g) 1 - 1) from rfl, sp_u_app, if_neg (fun z => hf1 ⟨z.2, g, ho, z.1⟩)]
      exact cs_c1_o M F t how hf
  have k8 : ∀ j f, cs_K M O F t how (8 + j) f = if 20 ≤ 8 + j then cs_K M O F t how (8 + j) f else M (8 + j) f := by
    intro j f
    by_cases hj : 20 ≤ 8 + j
    · rw [if_pos hj]
    · rw [if_neg hj]
      unfold cs_K
      cases ho : O 10 t with
      | none => exact cs_c1_k hS ht how (by omega)
      | some g =>
        have := hg4 g ht ho
        exact (sp_u_n _ _ (Or.inl (by omega))).trans (cs_c1_k hS ht how (by omega))
  have hom : ∀ g, g < 4 → sp_om N O g = sp_om (sp_E2 N O t how) O g + (if O 10 t = some g then 1 else 0) := by
    intro g hg
    have hh5 : ∀ u, u ≠ t → (decide (O 10 u = some g) && decide (sp_E2 N O t how 8 u < 5)) = (decide (O 10 u = some g) && decide (N 8 u < 5)) := by
      intro u hut
      rw [sp_E2_8]
      by_cases h1 : O 9 t = some u
      · rw [if_pos h1, (hc4 u h1).1]; rfl
      · rw [if_neg h1, if_neg hut]
    unfold sp_om
    rw [e6]
    by_cases hgt : O 10 t = some g
    · rw [if_pos hgt]
      refine sp_c_up (a := t) (fun u _ hut => hh5 u hut) ht ?_ ?_
      · rw [sp_E2_8, if_neg (fun z => (hc4 t z).2 rfl), if_pos rfl, decide_eq_false (show ¬ how < 5 by omega), Bool.and_false]
      · rw [decide_eq_true hgt, decide_eq_true (show N 8 t < 5 by omega)]; rfl
    · rw [if_neg hgt, Nat.add_zero]
      refine sp_c_congr (fun u _ => ?_)
      by_cases hut : u = t
      · rw [hut, decide_eq_false hgt]; rfl
      · exact (hh5 u hut).symm
  obtain ⟨⟨a1, a2, a3, a4⟩, b, c, d⟩ := hM
  have hB2 : cl_B (cs_K M O F t how) := by
    have hb1 : cl_B (cs_c1 M F t how) := by
      unfold cs_c1
      cases F (20 + t) 5 with
      | none => exact cl_B_u hB (by omega)
      | some c => exact cl_B_u (cl_B_u hB (by omega)) (by decide)
    unfold cs_K
    cases ho : O 10 t with
    | none => exact hb1
    | some g =>
      have := hB (4 + g) 1
      exact cl_B_u hb1 (by omega)
  have hS2 : cl_S (cs_K M O F t how) X F (sp_E2 N O t how) O B := by
    refine cl_S_cg (cl_S_Mg hS (ko _ _ (by decide) (fun z => by omega)) (ko _ _ (by decide) (fun z => by omega)) (fun j => ko _ _ (by decide) (fun z => by omega)) (fun u => ko _ _ (by decide) (fun z => by omega))) e1 e2 e6 e7
  refine ⟨hS2, ⟨⟨?_, ?_, ?_, a4⟩, fun j hj => ?_, fun u hu => ?_, fun g hg => ?_⟩, sp_V_E2 hV ht h8 hh, hB2⟩
  · rw [ko _ _ (by decide) (fun z => by omega), e 0 (by decide)]; exact a1
  · rw [ko _ _ (by decide) (fun z => by omega), sp_w_v f6 hv]; exact a2
  · rw [ko _ _ (by decide) (fun z => by omega), e 16 (by decide)]; exact a3
  · rw [e1] at hj
    obtain ⟨q1, q2, q3, q4, q5, q6, l, hl⟩ := b j hj
    have kk : ∀ f, cs_K M O F t how (8 + j) f = M (8 + j) f := fun f => by rw [k8, if_neg (by omega)]
    have hqq : sp_q (sp_E2 N O t how) j = sp_q (sp_u N 8 t how) j := by
      unfold sp_q
      rw [f6, f7]
      exact sp_c_congr (fun u _ => by rw [show decide (sp_E2 N O t how 8 u = 2) = decide (sp_u N 8 t how 8 u = 2) from decide_eq_decide.mpr (h2' u)])
    rw [kk, kk, kk, kk, kk, e 3 (by decide), e 4 (by decide), e 5 (by decide), hqq, sp_p_v f2 f6 f7 hv, sp_b_v f6 f7 hv]
    refine ⟨q1, q2, q3, q4, q5, q6, l, fun u => ?_, ?_, hl.2.2⟩
    · rw [hl.1 u, f6, f7, h2' u]
    · rw [e12]
      have := hl.2.1
      rw [u' 12 (by decide)] at this
      exact this
  · rw [e6] at hu
    obtain ⟨c1, c2, c3, c4, c5, c6⟩ := c u hu
    rw [k20, sp_E2_8, e12, ko _ 9 (by decide) (fun z => by omega)]
    by_cases h1 : O 9 t = some u
    · rw [if_pos h1, if_pos h1]
      exact ⟨rfl, c2, fun z => by omega, fun z => by omega, fun z => by omega, fun z => by omega⟩
    · rw [if_neg h1, if_neg h1]
      by_cases h2 : u = t
      · rw [if_pos h2, if_pos h2]
        exact ⟨rfl, c2, fun z => by omega, fun z => by omega, fun z => by omega, fun z => by omega⟩
      · rw [if_neg h2, if_neg h2]
        exact ⟨c1 h2, c2, c3, c4, c5, c6⟩
  · rw [ko _ 0 (by decide) (fun z => by omega), e 17 (by decide)]
    refine ⟨(d g hg).1, ?_⟩
    have h1 := hom g hg
    have h2 := (d g hg).2
    by_cases hgt : O 10 t = some g
    · rw [if_pos hgt] at h1
      unfold cs_K
      rw [hgt]
      show sp_u (cs_c1 M F t how) (4 + g) 1 (M (4 + g) 1 - 1) (4 + g) 1 = _
      rw [sp_u_self]
      omega
    · rw [if_neg hgt] at h1
      rw [ko _ 1 (by decide) (fun z => by
        obtain ⟨_, g2, hg2, hg3⟩ := z
        exact hgt (by rw [show g = g2 by omega]; exact hg2))]
      omega
theorem mt_E {t how : Nat} (hS : cl_S M X F N O B) (hM : cl_M M X F G N O Z B t how) (hV : sp_V N O Z B) (hB : cl_B M) (ht : t < N 6 0) (h8 : N 8 t = 2 ∨ N 8 t = 3) (hh : how = 5 ∨ how = 6) : cl_R (cs_cc M F N t how).1 X (cs_cc M F N t how).2 G (sp_E N O t how) O Z B ∧ ∀ f, f ≠ 8 → f ≠ 12 → f ≠ 16 → sp_E N O t how f = N f := by
  have h1 := mt_K hS hM hV hB ht h8 hh
  have h6 := (hS.2.2.1 t ht).2.2.2.2.2.2
  have hg4 := hS.2.2.2.2.1 t
  unfold cs_cc sp_E
  unfold cs_K at h1
  rw [h6]
  cases ho : O 10 t with
  | none =>
    rw [ho] at h1
    exact ⟨h1, fun f a _ _ => sp_E2_e N O t how a⟩
  | some g =>
    rw [ho] at h1
    have hg := hg4 g ht ho
    obtain ⟨h2, h3⟩ := mt_S h1 hg
    rw [cs_R_cg (N := N) (sp_E2_e N O t how (by decide)) (sp_E2_e N O t how (by decide))] at h2
    show cl_R (cs_R (sp_u (cs_c1 M F t how) (4 + g) 1 (M (4 + g) 1 - 1)) F N (4 + g - 4)).1 X (cs_R (sp_u (cs_c1 M F t how) (4 + g) 1 (M (4 + g) 1 - 1)) F N (4 + g - 4)).2 G (sp_S (sp_E2 N O t how) O g) O Z B ∧ _
    rw [Nat.add_sub_cancel_left]
    exact ⟨h2, fun f a b c => (h3 f a b c).trans (sp_E2_e N O t how a)⟩
end ME
