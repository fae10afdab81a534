/-! Part 42: line keeps the relation; release. -/
section ML
variable {M : sp_N} {X : sp_B} {F F' : sp_O} {G : sp_Z} {N N' : sp_N} {O : sp_O} {Z : sp_Z} {B : sp_B}
theorem sp_p_v (h2 : N' 2 = N 2) (h6 : N' 6 = N 6) (h7 : N' 7 = N 7) (hv : ∀ u, u < N 6 0 → sp_v N' u = sp_v N u) (x : Nat) : sp_p N' x = sp_p N x := by
  unfold sp_p
  rw [h6]
  exact sp_c_congr (fun t ht => by rw [hv t ht, sp_l_cg h2, h7])
theorem sp_w_v (h6 : N' 6 = N 6) (hv : ∀ u, u < N 6 0 → sp_v N' u = sp_v N u) : sp_w N' O = sp_w N O := by
  unfold sp_w
  rw [h6]
  exact sp_c_congr (fun t ht => by rw [hv t ht])
theorem sp_b_v (h6 : N' 6 = N 6) (h7 : N' 7 = N 7) (hv : ∀ u, u < N 6 0 → sp_v N' u = sp_v N u) (x : Nat) : sp_b N' B x = sp_b N B x := by
  unfold sp_b
  rw [h6, h7]
  exact sp_a_congr (fun t ht => by rw [hv t ht])
theorem sp_om_v (h6 : N' 6 = N 6) (hv : ∀ u, u < N 6 0 → (N' 8 u < 5 ↔ N 8 u < 5)) (g : Nat) : sp_om N' O g = sp_om N O g := by
  unfold sp_om
  rw [h6]
  exact sp_c_congr (fun t ht => by rw [show decide (N' 8 t < 5) = decide (N 8 t < 5) from decide_eq_decide.mpr (hv t ht)])
theorem cl_K_cg : ∀ {l : List Nat}, (∀ t, t ∈ l → F' (20 + t) 10 = F (20 + t) 10) → cl_K F l → cl_K F' l
  | [], _, _ => trivial
  | [a], h, hk => by
    show F' (20 + a) 10 = none
    rw [h a (List.mem_cons_self ..)]
    exact hk
  | a :: b :: r, h, hk => by
    show F' (20 + a) 10 = some (20 + b) ∧ cl_K F' (b :: r)
    rw [h a (List.mem_cons_self ..)]
    exact ⟨hk.1, cl_K_cg (fun t ht => h t (List.mem_cons_of_mem _ ht)) hk.2⟩
theorem cl_K_snoc {u t : Nat} (hu : F' (20 + u) 10 = some (20 + t)) (ht : F' (20 + t) 10 = none) : ∀ {l : List Nat}, u ∉ l → (∀ v, v ≠ u → F' (20 + v) 10 = F (20 + v) 10) → cl_K F (l ++ [u]) → cl_K F' ((l ++ [u]) ++ [t])
  | [], _, _, _ => ⟨hu, ht⟩
  | [a], hn, hh, hk => by
    have hau : a ≠ u := fun z => hn (by rw [z]; exact List.mem_cons_self ..)
    refine ⟨?_, hu, ht⟩
    rw [hh a hau]
    exact hk.1
  | a :: b :: r, hn, hh, hk => by
    have hau : a ≠ u := fun z => hn (by rw [z]; exact List.mem_cons_self ..)
    refine ⟨?_, cl_K_snoc hu ht (l := b :: r) (fun z => hn (List.mem_cons_of_mem _ z)) hh hk.2⟩
    rw [hh a hau]
    exact hk.1
theorem sp_L_e (N : sp_N) (t : Nat) {f : Nat} (h8 : f ≠ 8) (h12 : f ≠ 12) (h16 : f ≠ 16) : sp_L N t f = N f := by
  unfold sp_L
  rw [sp_u_f _ _ _ h16, sp_u_f _ _ _ h12, sp_u_f _ _ _ h8]
theorem sp_L8 (N : sp_N) (t u : Nat) : sp_L N t 8 u = if u = t then 2 else N 8 u := by
  unfold sp_L
  rw [sp_u_n _ _ (Or.inl (by decide)), sp_u_n _ _ (Or.inl (by decide)), sp_u_app]
  by_cases h : u = t
  · rw [if_pos ⟨rfl, h⟩, if_pos h]
  · rw [if_neg (fun z => h z.2), if_neg h]
theorem sp_L12 (N : sp_N) (t u : Nat) : sp_L N t 12 u = if u = t then N 16 0 else N 12 u := by
  unfold sp_L
  rw [sp_u_n _ _ (Or.inl (by decide)), sp_u_app]
  by_cases h : u = t
  · rw [if_pos ⟨rfl, h⟩, if_pos h]
  · rw [if_neg (fun z => h z.2), if_neg h, sp_u_n _ _ (Or.inl (by decide))]
theorem sp_L16 (N : sp_N) (t : Nat) : sp_L N t 16 0 = N 16 0 + 1 := by
  unfold sp_L
  exact sp_u_self ..
theorem sp_16 (hV : sp_V N O Z B) : N 16 0 ≤ N 6 0 := by
  rw [hV.2.2.2.2.2.2.1]
  exact sp_c_le _ _
theorem sp_V_L (hV : sp_V N O Z B) {t : Nat} (ht : t < N 6 0) (h8 : N 8 t < 2) : sp_V (sp_L N t) O Z B := by
  have h16 := sp_16 hV
  have e : ∀ f, f ≠ 8 → f ≠ 12 → f ≠ 16 → sp_L N t f = N f := fun f a b c => sp_L_e N t a b c
  have e1 := e 1 (by decide) (by decide) (by decide)
  have e2 := e 2 (by decide) (by decide) (by decide)
  have e6 := e 6 (by decide) (by decide) (by decide)
  have e7 := e 7 (by decide) (by decide) (by decide)
  have e0 := e 0 (by decide) (by decide) (by decide)
  have hv : ∀ u, sp_v (sp_L N t) u = sp_v N u := by
    intro u
    unfold sp_v
    rw [sp_L8]
    by_cases h : u = t
    · rw [if_pos h, h, decide_eq_false (show ¬ N 8 t = 3 by omega), decide_eq_false (show ¬ N 8 t = 4 by omega)]
      rfl
    · rw [if_neg h]
  obtain ⟨⟨a1, a2, a3⟩, b1, b2, c1, c2, d1, d2, d3, d4, f1, g1, g2, k1⟩ := hV
  refine ⟨⟨sp_Tr_cg a1 e1 e2, ?_, by rw [e0]; exact a3⟩, ?_, ?_, ?_, ?_, ?_, ?_, ?_, ?_, ?_, ?_, ?_, k1⟩
  · obtain ⟨q0, q1, q2, q3, q4, q5, q6, q7, q8, q9, q10, q11, q12, q17⟩ := a2
    refine ⟨by rw [e0]; exact q0, by rw [e1]; exact q1, by rw [e2]; exact q2, by rw [e 3 (by decide) (by decide) (by decide)]; exact q3, by rw [e 4 (by decide) (by decide) (by decide)]; exact q4, by rw [e 5 (by decide) (by decide) (by decide)]; exact q5, by rw [e6]; exact q6, by rw [e7]; exact q7, fun u => ?_, q9, q10, q11, fun u => ?_, by rw [e 17 (by decide) (by decide) (by decide)]; exact q17⟩
    · rw [sp_L8]
      split
      · decide
      · exact q8 u
    · rw [sp_L12]
      split
      · omega
      · exact q12 u
  · rw [e 4 (by decide) (by decide) (by decide), e 3 (by decide) (by decide) (by decide)]; exact b1
  · rw [e1, e 4 (by decide) (by decide) (by decide), e 5 (by decide) (by decide) (by decide)]; exact b2
  · rw [e1, e6, e7]; exact c1
  · rw [e6]; exact c2
  · intro u hu hu2
    rw [e6] at hu
    rw [sp_L8] at hu2
    rw [sp_L12, sp_L16]
    by_cases h : u = t
    · rw [if_pos h]; omega
    · rw [if_neg h] at hu2 ⊢
      have := d1 u hu hu2
      omega
  · rw [sp_L16, e6]
    rw [d2]
    symm
    refine sp_c_up (a := t) (fun u hu hut => ?_) ht ?_ ?_
    · rw [sp_L8, if_neg hut]
    · exact decide_eq_false (by omega)
    · rw [sp_L8, if_pos rfl]; rfl
  · intro u w hu hw hu8 hw8 h12
    rw [e6] at hu hw
    rw [sp_L8] at hu8 hw8
    rw [sp_L12, sp_L12] at h12
    by_cases h1 : u = t
    · by_cases h2 : w = t
      · rw [h1, h2]
      · rw [if_neg h2] at hw8 h12
        rw [if_pos h1] at h12
        have := d1 w hw (by omega)
        omega
    · rw [if_neg h1] at hu8 h12
      by_cases h2 : w = t
      · rw [if_pos h2] at h12
        have := d1 u hu (by omega)
        omega
      · rw [if_neg h2] at hw8 h12
        exact d3 u w hu hw hu8 hw8 h12
  · intro u w hu hw hvu hb hvw h7
    rw [e6] at hu hw
    rw [hv] at hvu hvw
    rw [e7] at h7
    exact d4 u w hu hw hvu hb hvw h7
  · intro j hj
    rw [e1] at hj
    rw [sp_p_v e2 e6 e7 (fun u _ => hv u), e 5 (by decide) (by decide) (by decide)]
    exact f1 j hj
  · intro u c hu ho h5
    rw [e6] at hu
    have h4 : N 8 c = 4 := by
      refine g1 u c hu ho ?_
      rw [sp_L8] at h5
      by_cases h : u = t
      · rw [h]; omega
      · rw [if_neg h] at h5; exact h5
    rw [sp_L8, if_neg (fun z => by rw [z] at h4; omega)]
    exact h4
  · intro u w c hu hw ho1 ho2 h1 h2
    rw [e6] at hu hw
    have key : ∀ v, sp_L N t 8 v < 5 → N 8 v < 5 := by
      intro v hv5
      rw [sp_L8] at hv5
      by_cases h : v = t
      · rw [h]; omega
      · rw [if_neg h] at hv5; exact hv5
    exact g2 u w c hu hw ho1 ho2 (key u h1) (key w h2)
theorem cs_aF_o (F : sp_O) (j t : Nat) {k f : Nat} (hf : f ≠ 4) (hf5 : f ≠ 5) (hf10 : f ≠ 10) : cs_aF F j t k f = F k f := by
  unfold cs_aF
  cases F (8 + j) 5
  · dsimp only
    rw [sp_u_n _ _ (Or.inr hf5), sp_u_n _ _ (Or.inr hf)]
  · dsimp only
    rw [sp_u_n _ _ (Or.inr hf5), sp_u_n _ _ (Or.inr hf10)]
theorem cs_aF_q (F : sp_O) {j t k f : Nat} (hk : k ≠ 8 + j) (hf10 : f ≠ 10) : cs_aF F j t k f = F k f := by
  unfold cs_aF
  cases F (8 + j) 5
  · dsimp only
    rw [sp_u_n _ _ (Or.inl hk), sp_u_n _ _ (Or.inl hk)]
  · dsimp only
    rw [sp_u_n _ _ (Or.inl hk), sp_u_n _ _ (Or.inr hf10)]
theorem cs_aF_10 (F : sp_O) (j t : Nat) {k : Nat} (h : F (8 + j) 5 ≠ some k) : cs_aF F j t k 10 = F k 10 := by
  unfold cs_aF
  cases hk2 : F (8 + j) 5 with
  | none =>
    dsimp only
    rw [sp_u_n _ _ (Or.inr (by decide)), sp_u_n _ _ (Or.inr (by decide))]
  | some k2 =>
    dsimp only
    rw [sp_u_n _ _ (Or.inr (by decide)), sp_u_n _ _ (Or.inl (fun z => h (by rw [z]; exact hk2)))]
theorem mt_line (h : cl_R M X F G N O Z B) {t : Nat} (ht : t < N 6 0) (h8 : N 8 t < 2) : cl_R (cs_lM M N t) X (cs_aF F (N 7 t) t) G (sp_L N t) O Z B := by
  obtain ⟨hS, hD, hV, hB⟩ := h
  have h12 := cl_12 hS
  have h160 := cl_160 hS
  have h16 := sp_16 hV
  have hj := cl_hl hS ht
  have e : ∀ f, f ≠ 8 → f ≠ 12 → f ≠ 16 → sp_L N t f = N f := fun f a b c => sp_L_e N t a b c
  have e1 := e 1 (by decide) (by decide) (by decide)
  have e2 := e 2 (by decide) (by decide) (by decide)
  have e6 := e 6 (by decide) (by decide) (by decide)
  have e7 := e 7 (by decide) (by decide) (by decide)
  have e0 := e 0 (by decide) (by decide) (by decide)
  have hv : ∀ u, u < N 6 0 → sp_v (sp_L N t) u = sp_v N u := by
    intro u _
    unfold sp_v
    rw [sp_L8]
    by_cases h : u = t
    · rw [if_pos h, h, decide_eq_false (show ¬ N 8 t = 3 by omega), decide_eq_false (show ¬ N 8 t = 4 by omega)]
      rfl
    · rw [if_neg h]
  have h5 : ∀ u, u < N 6 0 → (sp_L N t 8 u < 5 ↔ N 8 u < 5) := by
    intro u _
    rw [sp_L8]
    by_cases h : u = t
    · rw [if_pos h, h]; omega
    · rw [if_neg h]
  refine ⟨cl_S_cg (cl_S_l hS ht) e1 e2 e6 e7, ?_, sp_V_L hV ht h8, ?_⟩
  · obtain ⟨⟨a1, a2, a3, a4⟩, b, c, d⟩ := hD
    have m0 : ∀ f, f ≠ 7 → cs_lM M N t 0 f = M 0 f := fun f hf => by
      unfold cs_lM
      rw [sp_u_n _ _ (Or.inl (by omega)), sp_u_n _ _ (Or.inr hf), sp_u_n _ _ (Or.inl (by omega)), sp_u_n _ _ (Or.inl (by omega))]
    have m8 : ∀ i f, i < 12 → f ≠ 6 → cs_lM M N t (8 + i) f = M (8 + i) f := fun i f hi hf => by
      unfold cs_lM
      rw [sp_u_n _ _ (Or.inr hf), sp_u_n _ _ (Or.inl (by omega)), sp_u_n _ _ (Or.inl (by omega)), sp_u_n _ _ (Or.inl (by omega))]
    have m4 : ∀ g f, g < 4 → cs_lM M N t (4 + g) f = M (4 + g) f := fun g f hg => by
      unfold cs_lM
      rw [sp_u_n _ _ (Or.inl (by omega)), sp_u_n _ _ (Or.inl (by omega)), sp_u_n _ _ (Or.inl (by omega)), sp_u_n _ _ (Or.inl (by omega))]
    have m20 : ∀ u f, u ≠ t → cs_lM M N t (20 + u) f = M (20 + u) f := fun u f hu => by
      unfold cs_lM
      rw [sp_u_n _ _ (Or.inl (by omega)), sp_u_n _ _ (Or.inl (by omega)), sp_u_n _ _ (Or.inl (by omega)), sp_u_n _ _ (Or.inl (by omega))]
    obtain ⟨l, hl⟩ := (b (N 7 t) hj).2.2.2.2.2.2
    have hlast : ∀ k, F (8 + N 7 t) 5 = some k → ∃ u, k = 20 + u ∧ u ∈ l := by
      intro k hk
      rw [hl.2.2.2.1] at hk
      cases hg : l.getLast? with
      | none => rw [hg] at hk; cases hk
      | some u =>
        rw [hg] at hk
        cases hk
        exact ⟨u, rfl, List.mem_of_getLast? hg⟩
    refine ⟨⟨?_, ?_, ?_, a4⟩, fun j' hj' => ?_, fun u hu => ?_, fun g hg => ?_⟩
    · rw [m0 _ (by decide), e0]; exact a1
    · rw [m0 _ (by decide), sp_w_v e6 hv]; exact a2
    · rw [sp_L16, ← a3]
      unfold cs_lM
      rw [sp_u_n _ _ (Or.inl (by omega)), sp_u_self]
    · rw [e1] at hj'
      obtain ⟨q1, q2, q3, q4, q5, q6, l', hl'⟩ := b j' hj'
      rw [m8 _ 1 (by omega) (by decide), m8 _ 3 (by omega) (by decide), m8 _ 7 (by omega) (by decide), m8 _ 8 (by omega) (by decide), e 3 (by decide) (by decide) (by decide), e 4 (by decide) (by decide) (by decide), e 5 (by decide) (by decide) (by decide), sp_p_v e2 e6 e7 hv, sp_b_v e6 e7 hv]
      have hq : sp_q (sp_L N t) j' = if j' = N 7 t then sp_q N j' + 1 else sp_q N j' := by
        unfold sp_q
        rw [e6, e7]
        by_cases hjj : j' = N 7 t
        · rw [if_pos hjj]
          refine sp_c_up (a := t) (fun u _ hut => ?_) ht ?_ ?_
          · rw [sp_L8, if_neg hut]
          · rw [decide_eq_false (show ¬ N 8 t = 2 by omega)]; rfl
          · rw [sp_L8, if_pos rfl, hjj]; simp
        · rw [if_neg hjj]
          refine sp_c_congr (fun u _ => ?_)
          rw [sp_L8]
          by_cases hut : u = t
          · rw [hut, decide_eq_false (show ¬ N 7 t = j' from fun z => hjj z.symm), Bool.and_false, Bool.and_false]
          · rw [if_neg hut]
      rw [hq]
      refine ⟨q1, q2, ?_, q4, q5, q6, ?_⟩
      · unfold cs_lM
        rw [sp_u_app]
        by_cases hjj : j' = N 7 t
        · rw [if_pos ⟨by omega, rfl⟩, if_pos hjj, hjj, ← hjj, q3]
        · rw [if_neg (fun z => hjj (by omega)), if_neg hjj, sp_u_n _ _ (Or.inr (by decide)), sp_u_n _ _ (Or.inr (by decide)), sp_u_n _ _ (Or.inr (by decide))]
          exact q3
      · by_cases hjj : j' = N 7 t
        · subst hjj
          have htl : t ∉ l := fun z => by have := ((hl.1 t).mp z).2.1; omega
          refine ⟨l ++ [t], ?_, ?_, ?_, ?_, ?_⟩
          · intro u
            rw [List.mem_append, List.mem_singleton, hl.1 u, e6, e7, sp_L8]
            by_cases hut : u = t
            · rw [if_pos hut, hut]
              exact ⟨fun _ => ⟨ht, rfl, rfl⟩, fun _ => Or.inr rfl⟩
            · rw [if_neg hut]
              exact ⟨fun z => z.elim id (fun q => absurd q hut), Or.inl⟩
          · rw [List.pairwise_append]
            refine ⟨?_, List.pairwise_singleton _ _, ?_⟩
            · refine List.Pairwise.imp_of_mem (fun {x y} hx hy hxy => ?_) hl.2.1
              rw [sp_L12, sp_L12, if_neg (fun z => htl (by rw [← z]; exact hx)), if_neg (fun z => htl (by rw [← z]; exact hy))]
              exact hxy
            · intro x hx y hy
              rw [List.mem_singleton] at hy
              rw [sp_L12, sp_L12, if_neg (fun z => htl (by rw [← z]; exact hx)), if_pos hy]
              have hx1 := (hl.1 x).mp hx
              exact hV.2.2.2.2.2.1 x hx1.1 (by omega)
          · unfold cs_aF
            cases hl5 : F (8 + N 7 t) 5 with
            | none =>
              have hnil : l = [] := by
                rw [hl.2.2.2.1] at hl5
                cases hg : l.getLast? with
                | none => exact List.getLast?_eq_none_iff.mp hg
                | some u => rw [hg] at hl5; cases hl5
              show sp_u (sp_u F (8 + N 7 t) 4 (some (20 + t))) (8 + N 7 t) 5 (some (20 + t)) (8 + N 7 t) 4 = _
              rw [sp_u_n _ _ (Or.inr (by decide)), sp_u_self, hnil]
              rfl
            | some k =>
              show sp_u (sp_u F k 10 (some (20 + t))) (8 + N 7 t) 5 (some (20 + t)) (8 + N 7 t) 4 = _
              rw [sp_u_n _ _ (Or.inr (by decide)), sp_u_n _ _ (Or.inr (by decide)), hl.2.2.1]
              cases l with
              | nil => rw [hl.2.2.2.1] at hl5; cases hl5
              | cons x r => rfl
          · rw [List.getLast?_concat]
            unfold cs_aF
            cases F (8 + N 7 t) 5 <;> exact sp_u_self ..
          · have hF10 : F (20 + t) 10 = none := (c t ht).2.2.2.2.2 h8
            have hnt : cs_aF F (N 7 t) t (20 + t) 10 = none := by
              rw [cs_aF_10 F _ _ (fun z => ?_)]
              · exact hF10
              · obtain ⟨u, hu1, hu2⟩ := hlast _ z
                exact htl (by rw [show t = u by omega]; exact hu2)
            rcases List.eq_nil_or_concat l with hn | ⟨l0, u, hn⟩
            · rw [hn]
              exact hnt
            · rw [List.concat_eq_append] at hn
              rw [hn]
              have hl5 : F (8 + N 7 t) 5 = some (20 + u) := by
                rw [hl.2.2.2.1, hn, List.getLast?_concat]
                rfl
              refine cl_K_snoc ?_ hnt (F := F) ?_ (fun v hvu => cs_aF_10 F _ _ (fun z => hvu ?_)) (by rw [← hn]; exact hl.2.2.2.2)
              · unfold cs_aF
                rw [hl5]
                show sp_u (sp_u F (20 + u) 10 (some (20 + t))) (8 + N 7 t) 5 (some (20 + t)) (20 + u) 10 = _
                rw [sp_u_n _ _ (Or.inr (by decide)), sp_u_self]
              · intro z
                have hp := hl.2.1
                rw [hn, List.pairwise_append] at hp
                have := hp.2.2 u z u (List.mem_singleton.mpr rfl)
                omega
              · rw [hl5] at z
                have := Option.some.inj z
                omega
        · refine ⟨l', ?_, ?_, ?_, ?_, ?_⟩
          · intro u
            rw [hl'.1 u, e6, e7, sp_L8]
            by_cases hut : u = t
            · rw [if_pos hut, hut]
              exact ⟨fun z => absurd z.2.2.symm hjj, fun z => absurd z.2.2.symm hjj⟩
            · rw [if_neg hut]
          · have htl : t ∉ l' := fun z => hjj ((hl'.1 t).mp z).2.2.symm
            refine List.Pairwise.imp_of_mem (fun {x y} hx hy hxy => ?_) hl'.2.1
            rw [sp_L12, sp_L12, if_neg (fun z => htl (by rw [← z]; exact hx)), if_neg (fun z => htl (by rw [← z]; exact hy))]
            exact hxy
          · rw [cs_aF_q F (by omega) (by decide)]; exact hl'.2.2.1
          · rw [cs_aF_q F (by omega) (by decide)]; exact hl'.2.2.2.1
          · refine cl_K_cg (fun v hv2 => cs_aF_10 F _ _ (fun z => ?_)) hl'.2.2.2.2
            obtain ⟨u, hu1, hu2⟩ := hlast _ z
            have hvu : v = u := by omega
            have h1 := ((hl'.1 v).mp hv2).2.2
            have h2 := ((hl.1 u).mp hu2).2.2
            rw [hvu] at h1
            exact hjj (by rw [← h1, h2])
    · rw [e6] at hu
      obtain ⟨c1, c2, c3, c4, c5, c6⟩ := c u hu
      rw [sp_L8, sp_L12]
      by_cases hut : u = t
      · subst hut
        rw [if_pos rfl, if_pos rfl]
        refine ⟨?_, c2, fun z => by omega, fun z => by omega, fun _ => ?_, fun z => by omega⟩
        · unfold cs_lM
          rw [sp_u_n _ _ (Or.inl (by omega)), sp_u_n _ _ (Or.inl (by omega)), sp_u_n _ _ (Or.inr (by decide)), sp_u_self]
        · unfold cs_lM
          rw [sp_u_n _ _ (Or.inl (by omega)), sp_u_n _ _ (Or.inl (by omega)), sp_u_self]
          exact a3
      · rw [if_neg hut, if_neg hut, m20 _ _ hut, m20 _ _ hut, cs_aF_o F _ _ (by decide) (by decide) (by decide)]
        refine ⟨c1, c2, c3, c4, c5, fun z => ?_⟩
        rw [cs_aF_10 F _ _ (fun q => ?_)]
        · exact c6 z
        · obtain ⟨w, hw1, hw2⟩ := hlast _ q
          have hwu : u = w := by omega
          have h1 := ((hl.1 w).mp hw2).2.1
          rw [← hwu] at h1
          omega
    · rw [m4 _ _ hg, m4 _ _ hg, sp_om_v e6 h5, e 17 (by decide) (by decide) (by decide)]
      exact d g hg
  · have hq : M (8 + N 7 t) 6 = sp_q N (N 7 t) := (hD.2.1 _ hj).2.2.1
    have hq2 : sp_q N (N 7 t) ≤ N 6 0 := sp_c_le _ _
    have h07 : M 0 7 = N 16 0 := hD.1.2.2.1
    exact cl_B_u (cl_B_u (cl_B_u (cl_B_u hB (by decide)) (hB _ _)) (by omega)) (by omega)
end ML
