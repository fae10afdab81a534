/-! Part 46: the start of a block; begin. -/
section MB
variable {M : sp_N} {X : sp_B} {F F' : sp_O} {G : sp_Z} {N N' : sp_N} {O : sp_O} {Z : sp_Z} {B : sp_B} {t : Nat}
theorem sp_pk_e (K : sp_N) : ∀ (x : Nat) {f : Nat}, f ≠ 5 → sp_pk K x f = K f
  | 0, _, _ => rfl
  | x + 1, f, h => by
    unfold sp_pk
    rw [sp_u_f _ _ _ h, sp_pk_e K x h]
theorem sp_pk_5 (K : sp_N) : ∀ (x y : Nat), sp_pk K x 5 y = if y < x then (if sp_p K y ≤ K 5 y then K 5 y else sp_p K y) else K 5 y
  | 0, y => by rw [if_neg (Nat.not_lt_zero _)]; rfl
  | x + 1, y => by
    have hp : sp_p (sp_pk K x) x = sp_p K x := sp_p_cg (sp_pk_e K x (by decide)) (sp_pk_e K x (by decide)) (sp_pk_e K x (by decide)) (sp_pk_e K x (by decide)) x
    unfold sp_pk
    rw [sp_u_app, hp, sp_pk_5 K x x, if_neg (Nat.lt_irrefl _), sp_pk_5 K x y]
    by_cases h1 : y = x
    · rw [if_pos ⟨rfl, h1⟩, if_pos (show y < x + 1 by omega), h1]
    · rw [if_neg (fun z => h1 z.2)]
      by_cases h2 : y < x
      · rw [if_pos h2, if_pos (show y < x + 1 by omega)]
      · rw [if_neg h2, if_neg (show ¬ y < x + 1 by omega)]
theorem sp_m_2 (h : sp_m N O B t = true) : (B 14 t = true → sp_p N (N 7 t) = 0) ∧ ∀ x, x < N 1 0 → sp_l N (N 7 t) x = true → sp_b N B x = false := by
  have h1 := sp_m_1 h
  unfold sp_m at h
  rw [if_neg (fun z => z.elim (fun q => q h1.1) (fun q => q h1.2))] at h
  by_cases h2 : B 14 t = true ∧ 0 < sp_p N (N 7 t)
  · rw [if_pos h2] at h; cases h
  · rw [if_neg h2] at h
    refine ⟨fun z => Nat.eq_zero_of_not_pos (fun q => h2 ⟨z, q⟩), fun x hx hl => ?_⟩
    by_cases h3 : B 15 t = false ∧ O 9 t = none ∧ N 0 0 ≤ sp_w N O
    · rw [if_pos h3] at h; cases h
    · rw [if_neg h3, Bool.not_eq_true', sp_a_f] at h
      have h4 := h x hx
      rw [hl, Bool.true_and, Bool.not_eq_false'] at h4
      unfold sp_t at h4
      by_cases h5 : 3 ≤ x ∧ (0 < N 4 x ∨ N 3 x ≤ sp_p N x)
      · rw [if_pos h5] at h4; cases h4
      · rw [if_neg h5] at h4
        cases hb : sp_b N B x with
        | false => rfl
        | true => rw [hb, if_pos rfl] at h4; cases h4
/-- a block goes live: the counts above it rise -/
theorem mt_livep2 (ht : t < N 6 0) (hv : sp_v N t = false) (x : Nat) : sp_p (sp_u N 8 t 3) x = sp_p N x + (if sp_l N (N 7 t) x = true then 1 else 0) := by
  have u' : ∀ f, f ≠ 8 → sp_u N 8 t 3 f = N f := fun f a => sp_u_f N t 3 a
  have hvu : ∀ u, u ≠ t → sp_v (sp_u N 8 t 3) u = sp_v N u := fun u hut => by unfold sp_v; rw [sp_u8, if_neg hut]
  have hvt : sp_v (sp_u N 8 t 3) t = true := by unfold sp_v; rw [sp_u8, if_pos rfl]; rfl
  unfold sp_p
  rw [u' 6 (by decide), u' 7 (by decide)]
  by_cases hl : sp_l N (N 7 t) x = true
  · rw [if_pos hl]
    refine sp_c_up (a := t) (fun u _ hut => ?_) ht ?_ ?_
    · rw [hvu u hut, sp_l_cg (u' 2 (by decide))]
    · rw [hv]; rfl
    · rw [hvt, sp_l_cg (u' 2 (by decide)), hl]; rfl
  · rw [if_neg hl, Nat.add_zero]
    refine sp_c_congr (fun u _ => ?_)
    by_cases hut : u = t
    · rw [hut, sp_l_cg (u' 2 (by decide)), (Bool.not_eq_true _).mp hl, Bool.and_false, Bool.and_false]
    · rw [hvu u hut, sp_l_cg (u' 2 (by decide))]
theorem mt_livew2 (ht : t < N 6 0) (hv : sp_v N t = false) : sp_w (sp_u N 8 t 3) O = sp_w N O + (if O 9 t = none then 1 else 0) := by
  have u' : ∀ f, f ≠ 8 → sp_u N 8 t 3 f = N f := fun f a => sp_u_f N t 3 a
  have hvu : ∀ u, u ≠ t → sp_v (sp_u N 8 t 3) u = sp_v N u := fun u hut => by unfold sp_v; rw [sp_u8, if_neg hut]
  have hvt : sp_v (sp_u N 8 t 3) t = true := by unfold sp_v; rw [sp_u8, if_pos rfl]; rfl
  unfold sp_w
  rw [u' 6 (by decide)]
  by_cases hl : O 9 t = none
  · rw [if_pos hl]
    refine sp_c_up (a := t) (fun u _ hut => by rw [hvu u hut]) ht ?_ ?_
    · rw [hv]; rfl
    · rw [hvt, decide_eq_true hl]; rfl
  · rw [if_neg hl, Nat.add_zero]
    refine sp_c_congr (fun u _ => ?_)
    by_cases hut : u = t
    · rw [hut, decide_eq_false hl, Bool.and_false, Bool.and_false]
    · rw [hvu u hut]
theorem cs_up_o (K : sp_N) (y : Nat) {k f : Nat} (h7 : f ≠ 7) (h8 : f ≠ 8) : cs_up N y K k f = K k f := by
  unfold cs_up
  rw [if_neg h7, if_neg h8]
  split <;> rfl
theorem cs_up_k (K : sp_N) (y : Nat) {k f : Nat} (h : ¬ (8 ≤ k ∧ k < 8 + N 1 0)) : cs_up N y K k f = K k f := by
  unfold cs_up
  rw [if_neg (fun z => h ⟨z.1, z.2.1⟩)]
theorem cs_up_7 (K : sp_N) (y : Nat) {x : Nat} (hx : x < N 1 0) : cs_up N y K (8 + x) 7 = if sp_l N y x = true then K (8 + x) 7 + 1 else K (8 + x) 7 := by
  unfold cs_up
  rw [if_pos rfl, Nat.add_sub_cancel_left]
  by_cases h : sp_l N y x = true
  · rw [if_pos ⟨by omega, by omega, h⟩, if_pos h]
  · rw [if_neg (fun z => h z.2.2), if_neg h]
theorem cs_up_8 (K : sp_N) (y : Nat) {x : Nat} (hx : x < N 1 0) : cs_up N y K (8 + x) 8 = if sp_l N y x = true then (if K (8 + x) 8 ≤ K (8 + x) 7 + 1 then K (8 + x) 7 + 1 else K (8 + x) 8) else K (8 + x) 8 := by
  unfold cs_up
  rw [if_neg (show ¬ 8 = 7 by decide), if_pos rfl, Nat.add_sub_cancel_left]
  by_cases h : sp_l N y x = true
  · rw [if_pos ⟨by omega, by omega, h⟩, if_pos h]
  · rw [if_neg (fun z => h z.2.2), if_neg h]
theorem mt_start (h : cl_R M X F G N O Z B) (ht : t < N 6 0) (hm : sp_m N O B t = true) : cl_R (cs_sM (cs_xM M F (N 7 t)) (cs_xF F (N 7 t)) N t) (cs_sX X N t) (cs_xF F (N 7 t)) G (sp_st N (some t)) O Z B := by
  obtain ⟨hS, hD, hV, hB⟩ := h
  have h12 := cl_12 hS
  have h160 := cl_160 hS
  obtain ⟨h8, ho⟩ := sp_m_1 hm
  obtain ⟨hbar, hnob⟩ := sp_m_2 hm
  have hj := cl_hl hS ht
  have hx := cs_xM_is hD hj ho
  have hvt0 : sp_v N t = false := by unfold sp_v; rw [h8]; rfl
  have hvu : ∀ u, u ≠ t → sp_v (sp_u N 8 t 3) u = sp_v N u := fun u hut => by unfold sp_v; rw [sp_u8, if_neg hut]
  have u' : ∀ f, f ≠ 8 → sp_u N 8 t 3 f = N f := fun f a => sp_u_f N t 3 a
  have hst : sp_st N (some t) = sp_pk (sp_u N 8 t 3) (N 1 0) := rfl
  rw [hst]
  have e5 : ∀ f, f ≠ 5 → sp_pk (sp_u N 8 t 3) (N 1 0) f = sp_u N 8 t 3 f := fun f a => sp_pk_e _ _ a
  have e : ∀ f, f ≠ 8 → f ≠ 5 → sp_pk (sp_u N 8 t 3) (N 1 0) f = N f := fun f a b => (e5 f b).trans (u' f a)
  have e1 := e 1 (by decide) (by decide)
  have e2 := e 2 (by decide) (by decide)
  have e6 := e 6 (by decide) (by decide)
  have e7 := e 7 (by decide) (by decide)
  have e12 := e 12 (by decide) (by decide)
  have e8 : ∀ u, sp_pk (sp_u N 8 t 3) (N 1 0) 8 u = if u = t then 3 else N 8 u := fun u => by rw [e5 8 (by decide), sp_u8]
  have hpk : ∀ y, sp_pk (sp_u N 8 t 3) (N 1 0) 5 y = if y < N 1 0 then (if sp_p (sp_u N 8 t 3) y ≤ N 5 y then N 5 y else sp_p (sp_u N 8 t 3) y) else N 5 y := fun y => by rw [sp_pk_5, u' 5 (by decide)]
  have hp2 : ∀ x, sp_p (sp_pk (sp_u N 8 t 3) (N 1 0)) x = sp_p (sp_u N 8 t 3) x := fun x => sp_p_cg (e5 2 (by decide)) (e5 6 (by decide)) (e5 7 (by decide)) (e5 8 (by decide)) x
  have hb2 : ∀ x, sp_b (sp_pk (sp_u N 8 t 3) (N 1 0)) B x = sp_b (sp_u N 8 t 3) B x := fun x => sp_b_cg (e5 6 (by decide)) (e5 7 (by decide)) (e5 8 (by decide)) x
  have hw2 : sp_w (sp_pk (sp_u N 8 t 3) (N 1 0)) O = sp_w (sp_u N 8 t 3) O := sp_w_cg (e5 6 (by decide)) (e5 8 (by decide))
  have hq2 : ∀ x, sp_q (sp_pk (sp_u N 8 t 3) (N 1 0)) x = sp_q (sp_u N 8 t 3) x := fun x => sp_q_cg (e5 6 (by decide)) (e5 7 (by decide)) (e5 8 (by decide)) x
  have hpl : ∀ x, sp_p N x ≤ N 6 0 := fun x => sp_c_le _ _
  have hpl2 : ∀ x, sp_p (sp_u N 8 t 3) x ≤ N 6 0 := fun x => by
    have h1 := sp_c_le (fun u => sp_v (sp_u N 8 t 3) u && sp_l (sp_u N 8 t 3) (sp_u N 8 t 3 7 u) x) (sp_u N 8 t 3 6 0)
    rw [u' 6 (by decide)] at h1
    unfold sp_p
    rw [u' 6 (by decide)]
    exact h1
  have hpp := mt_livep2 (N := N) ht hvt0
  have hww := mt_livew2 (N := N) (O := O) ht hvt0
  have hxb : X (20 + t) 2 = B 14 t := cl_x hS ht
  have hK : ∃ K, cs_sM (cs_xM M F (N 7 t)) (cs_xF F (N 7 t)) N t = cs_up N (N 7 t) K ∧ (∀ k f, ¬ (k = 0 ∧ f = 6) → ¬ (k = 20 + t ∧ f = 3) → ¬ (k = 8 + N 7 t ∧ f = 6) → K k f = M k f) ∧ (K 0 6 = if O 9 t = none then M 0 6 + 1 else M 0 6) ∧ K (20 + t) 3 = 3 ∧ K (8 + N 7 t) 6 = M (8 + N 7 t) 6 - 1 := by
    have h5 : cs_xF F (N 7 t) (20 + t) 5 = (O 9 t).map (fun c => 20 + c) := by
      rw [cs_xF_o F _ (Or.inl (by omega))]
      exact (hS.2.2.1 t ht).2.2.2.2.2.1
    unfold cs_sM
    rw [h5, hx]
    cases hoo : O 9 t with
    | none =>
      refine ⟨_, rfl, fun k f z1 z2 z3 => ?_, ?_, ?_, ?_⟩
      · show sp_u (sp_u (sp_u M (8 + N 7 t) 6 (M (8 + N 7 t) 6 - 1)) (20 + t) 3 3) 0 6 _ k f = _
        rw [sp_u_app, if_neg z1, sp_u_app, if_neg z2, sp_u_app, if_neg z3]
      · rw [if_pos rfl]
        show sp_u (sp_u (sp_u M (8 + N 7 t) 6 (M (8 + N 7 t) 6 - 1)) (20 + t) 3 3) 0 6 (sp_u M (8 + N 7 t) 6 (M (8 + N 7 t) 6 - 1) 0 6 + 1) 0 6 = _
        rw [sp_u_self, sp_u_n _ _ (Or.inl (by omega))]
      · exact (sp_u_n _ _ (Or.inl (by omega))).trans (sp_u_self ..)
      · exact (sp_u_n _ _ (Or.inl (by omega))).trans ((sp_u_n _ _ (Or.inl (by omega))).trans (sp_u_self ..))
    | some c =>
      refine ⟨_, rfl, fun k f z1 z2 z3 => ?_, ?_, ?_, ?_⟩
      · show sp_u (sp_u M (8 + N 7 t) 6 (M (8 + N 7 t) 6 - 1)) (20 + t) 3 3 k f = _
        rw [sp_u_app, if_neg z2, sp_u_app, if_neg z3]
      · rw [if_neg (fun z => by cases z)]
        exact (sp_u_n _ _ (Or.inl (by omega))).trans (sp_u_n _ _ (Or.inl (by omega)))
      · exact sp_u_self ..
      · exact (sp_u_n _ _ (Or.inl (by omega))).trans (sp_u_self ..)
  obtain ⟨K, hK1, hK2, hK3, hK4, hK5⟩ := hK
  have hS2 := cl_S_s (cl_S_x hS hj) t
  refine ⟨cl_S_cg hS2 e1 e2 e6 e7, ?_, ?_, ?_⟩
  · rw [hK1]
    obtain ⟨⟨a1, a2, a3, a4⟩, b, c, d⟩ := hD
    refine ⟨⟨?_, ?_, ?_, a4⟩, fun j hj' => ?_, fun u hu => ?_, fun g hg => ?_⟩
    · rw [cs_up_o _ _ (by decide) (by decide), hK2 _ _ (by omega) (by omega) (by omega), e 0 (by decide) (by decide)]; exact a1
    · rw [cs_up_o _ _ (by decide) (by decide), hK3, hw2, hww, a2]
      by_cases hn : O 9 t = none
      · rw [if_pos hn, if_pos hn]
      · rw [if_neg hn, if_neg hn, Nat.add_zero]
    · rw [cs_up_k _ _ (by omega), hK2 _ _ (by omega) (by omega) (by omega), e 16 (by decide) (by decide)]; exact a3
    · rw [e1] at hj'
      obtain ⟨q1, q2, q3, q4, q5, q6, _⟩ := b j hj'
      have f1 := hV.2.2.2.2.2.2.2.2.2.1 j hj'
      rw [cs_up_7 _ _ hj', cs_up_8 _ _ hj', cs_up_o _ _ (by decide) (by decide), cs_up_o _ _ (by decide) (by decide), cs_up_o _ _ (by decide) (by decide), hK2 (8 + j) 1 (by omega) (by omega) (by omega), hK2 (8 + j) 3 (by omega) (by omega) (by omega), hK2 (8 + j) 7 (by omega) (by omega) (by omega), hK2 (8 + j) 8 (by omega) (by omega) (by omega), e 3 (by decide) (by decide), e 4 (by decide) (by decide), hq2, hp2, hb2, hpk, if_pos hj', hpp j, q4, q5]
      refine ⟨q1, q2, ?_, ?_, ?_, ?_, ?_⟩
      · have h1 := mt_dropq (N := N) ht h8 (s := 3) (by decide) j
        by_cases hjj : j = N 7 t
        · rw [if_pos hjj] at h1
          rw [hjj, hK5, ← hjj]
          omega
        · rw [if_neg hjj] at h1
          rw [hK2 _ _ (by omega) (by omega) (by omega)]
          omega
      · by_cases hll : sp_l N (N 7 t) j = true
        · rw [if_pos hll, if_pos hll]
        · rw [if_neg hll, if_neg hll, Nat.add_zero]
      · by_cases hll : sp_l N (N 7 t) j = true
        · rw [if_pos hll, if_pos hll]
          by_cases h1 : N 5 j ≤ sp_p N j + 1
          · rw [if_pos h1]
            by_cases h2 : sp_p N j + 1 ≤ N 5 j
            · rw [if_pos h2]; omega
            · rw [if_neg h2]
          · rw [if_neg h1, if_pos (by omega)]
        · rw [if_neg hll, if_neg hll, Nat.add_zero, if_pos f1]
      · unfold cs_sX
        rw [hxb]
        by_cases hbb : B 14 t = true
        · rw [if_pos hbb, sp_u_app]
          by_cases hjj : j = N 7 t
          · rw [if_pos ⟨by omega, rfl⟩]
            symm
            refine sp_a_iff.mpr ⟨t, by rw [u' 6 (by decide)]; exact ht, ?_⟩
            rw [u' 7 (by decide), hbb, hjj]
            unfold sp_v
            rw [sp_u8, if_pos rfl]
            simp
          · rw [if_neg (fun z => hjj (by omega)), q6]
            unfold sp_b
            rw [u' 6 (by decide), u' 7 (by decide)]
            refine sp_a_congr (fun u _ => ?_)
            by_cases hut : u = t
            · rw [hut, decide_eq_false (show ¬ N 7 t = j from fun z => hjj z.symm), Bool.and_false, Bool.and_false]
            · rw [hvu u hut]
        · rw [if_neg hbb, q6]
          unfold sp_b
          rw [u' 6 (by decide), u' 7 (by decide)]
          refine sp_a_congr (fun u _ => ?_)
          by_cases hut : u = t
          · rw [hut, (Bool.not_eq_true _).mp hbb, Bool.and_false, Bool.and_false]
          · rw [hvu u hut]
      · obtain ⟨l, hl⟩ := mt_dropL ⟨⟨a1, a2, a3, a4⟩, b, c, d⟩ ht hj ho (s := 3) (by decide) hj'
        exact ⟨l, cl_L_cg hl (e5 6 (by decide)) (e5 7 (by decide)) (e5 8 (by decide)) (e5 12 (by decide))⟩
    · rw [e6] at hu
      obtain ⟨c1, c2, c3, c4, c5, c6⟩ := c u hu
      rw [cs_up_k _ _ (by omega), cs_up_k _ _ (by omega), e8, e12, cs_xF_o F _ (Or.inl (by omega)), cs_xF_o F _ (Or.inl (by omega)), hK2 (20 + u) 9 (by omega) (by omega) (by omega)]
      have hx4 : cs_sX X N t (20 + u) 4 = B 15 u := by
        unfold cs_sX
        split
        · rw [sp_u_n _ _ (Or.inr (by decide))]; exact c2
        · exact c2
      by_cases hut : u = t
      · rw [if_pos hut, hut, hK4]
        rw [hut] at hx4
        exact ⟨rfl, hx4, fun z => by omega, fun z => by omega, fun z => by omega, fun z => by omega⟩
      · rw [if_neg hut, hK2 _ _ (by omega) (by omega) (by omega)]
        exact ⟨c1, hx4, c3, c4, c5, c6⟩
    · rw [cs_up_k _ _ (by omega), cs_up_k _ _ (by omega), hK2 _ _ (by omega) (by omega) (by omega), hK2 _ _ (by omega) (by omega) (by omega), e 17 (by decide) (by decide), sp_om_v e6 (fun u _ => by
        rw [e8]
        by_cases hut : u = t
        · rw [if_pos hut, hut]; omega
        · rw [if_neg hut])]
      exact d g hg
  · obtain ⟨⟨a1, a2, a3⟩, b1, b2, c1, c2, d1, d2, d3, d4, f1, g1, g2, k1⟩ := hV
    have hvv : ∀ u, u ≠ t → sp_v (sp_pk (sp_u N 8 t 3) (N 1 0)) u = sp_v N u := fun u hut => by
      rw [sp_v_cg (e5 8 (by decide)), hvu u hut]
    refine ⟨⟨sp_Tr_cg a1 e1 e2, ?_, by rw [e 0 (by decide) (by decide)]; exact a3⟩, ?_, ?_, ?_, ?_, ?_, ?_, ?_, ?_, ?_, ?_, ?_, k1⟩
    · obtain ⟨q0, q1, q2, q3, q4, q5, q6, q7, q8, q9, q10, q11, q12, q17⟩ := a2
      refine ⟨by rw [e 0 (by decide) (by decide)]; exact q0, by rw [e1]; exact q1, by rw [e2]; exact q2, by rw [e 3 (by decide) (by decide)]; exact q3, by rw [e 4 (by decide) (by decide)]; exact q4, fun j => ?_, by rw [e6]; exact q6, by rw [e7]; exact q7, fun u => ?_, q9, q10, q11, by rw [e12]; exact q12, by rw [e 17 (by decide) (by decide)]; exact q17⟩
      · rw [hpk]
        have := q5 j
        have := hpl2 j
        split
        · split <;> omega
        · omega
      · rw [e8]
        split
        · decide
        · exact q8 u
    · rw [e 4 (by decide) (by decide), e 3 (by decide) (by decide)]; exact b1
    · intro j hj'
      rw [e1] at hj'
      rw [e 4 (by decide) (by decide), hpk, if_neg (by omega)]
      exact b2 j hj'
    · rw [e1, e6, e7]; exact c1
    · rw [e6]; exact c2
    · intro u hu h2
      rw [e6] at hu
      rw [e8] at h2
      rw [e12, e 16 (by decide) (by decide)]
      refine d1 u hu ?_
      by_cases hut : u = t
      · rw [hut]; omega
      · rw [if_neg hut] at h2; exact h2
    · rw [e 16 (by decide) (by decide), d2, e6]
      refine sp_c_congr (fun u _ => decide_eq_decide.mpr ?_)
      rw [e8]
      by_cases hut : u = t
      · rw [if_pos hut, hut]; omega
      · rw [if_neg hut]
    · intro u w hu hw hu8 hw8 hh
      rw [e6] at hu hw
      rw [e8] at hu8 hw8
      rw [e12] at hh
      have k1 : ∀ v, (if v = t then 3 else N 8 v) = 2 → N 8 v = 2 := fun v hv2 => by
        by_cases hvt : v = t
        · rw [if_pos hvt] at hv2; omega
        · rw [if_neg hvt] at hv2; exact hv2
      exact d3 u w hu hw (k1 u hu8) (k1 w hw8) hh
    · intro u w hu hw hv1 hbu hv2 h7
      rw [e6] at hu hw
      rw [e7] at h7
      by_cases hut : u = t
      · by_cases hwt : w = t
        · rw [hut, hwt]
        · rw [hvv w hwt] at hv2
          rw [hut] at hbu h7
          have h1 := sp_c_0.mp (hbar hbu) w hw
          rw [hv2, h7, sp_l_self] at h1
          cases h1
      · rw [hvv u hut] at hv1
        by_cases hwt : w = t
        · have h1 := hnob (N 7 t) hj (sp_l_self N _)
          have h2 := sp_a_f.mp h1 u hu
          rw [hv1, hbu, decide_eq_true (show N 7 u = N 7 t by rw [← h7, hwt])] at h2
          cases h2
        · rw [hvv w hwt] at hv2
          exact d4 u w hu hw hv1 hbu hv2 h7
    · intro j hj'
      rw [e1] at hj'
      rw [hp2, hpk, if_pos hj']
      split <;> omega
    · intro u c hu hoc h5
      rw [e6] at hu
      rw [e8] at h5
      have h4 : N 8 c = 4 := by
        refine g1 u c hu hoc ?_
        by_cases hut : u = t
        · rw [hut]; omega
        · rw [if_neg hut] at h5; exact h5
      rw [e8, if_neg (fun z => by rw [z] at h4; omega)]
      exact h4
    · intro u w c hu hw ho1 ho2 h1 h2
      rw [e6] at hu hw
      rw [e8] at h1 h2
      have k1 : ∀ v, (if v = t then 3 else N 8 v) < 5 → N 8 v < 5 := fun v hv2 => by
        by_cases hvt : v = t
        · rw [hvt]; omega
        · rw [if_neg hvt] at hv2; exact hv2
      exact g2 u w c hu hw ho1 ho2 (k1 u h1) (k1 w h2)
  · rw [hK1]
    have hKB : cl_B K := by
      intro k f
      by_cases z1 : k = 0 ∧ f = 6
      · rw [z1.1, z1.2, hK3]
        have h1 : M 0 6 = sp_w N O := hD.1.2.1
        have h2 : sp_w N O ≤ N 6 0 := sp_c_le _ _
        split <;> omega
      · by_cases z2 : k = 20 + t ∧ f = 3
        · rw [z2.1, z2.2, hK4]; decide
        · by_cases z3 : k = 8 + N 7 t ∧ f = 6
          · rw [z3.1, z3.2, hK5]
            have := hB (8 + N 7 t) 6
            omega
          · rw [hK2 k f z1 z2 z3]; exact hB k f
    intro k f
    by_cases hk : 8 ≤ k ∧ k < 8 + N 1 0
    · obtain ⟨x, rfl⟩ : ∃ x, k = 8 + x := ⟨k - 8, by omega⟩
      have hx1 : x < N 1 0 := by omega
      have h7 : K (8 + x) 7 = sp_p N x := by rw [hK2 _ _ (by omega) (by omega) (by omega)]; exact (hD.2.1 x hx1).2.2.2.1
      have := hpl x
      by_cases hf7 : f = 7
      · rw [hf7, cs_up_7 _ _ hx1, h7]
        split <;> omega
      · by_cases hf8 : f = 8
        · rw [hf8, cs_up_8 _ _ hx1, h7]
          have := hKB (8 + x) 8
          split
          · split <;> omega
          · omega
        · rw [cs_up_o _ _ hf7 hf8]; exact hKB _ _
    · rw [cs_up_k _ _ hk]; exact hKB k f
end MB
