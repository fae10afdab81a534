/-! Part 50: what a new block is given. -/
section MN2
variable {M : sp_N} {X : sp_B} {F F' : sp_O} {G : sp_Z} {N N' : sp_N} {O O' : sp_O} {Z Z' : sp_Z} {B : sp_B} {n : Nat}
theorem sp_V_O (h : sp_V N O Z B) (h9 : O' 9 = O 9) (h10 : ∀ t k, O' 10 t = some k → k < 4) (h11 : ∀ t k, O' 11 t = some k → k < 4) : sp_V N O' Z B := by
  unfold sp_V at h ⊢
  rw [h9]
  obtain ⟨⟨a1, a2, a3⟩, r⟩ := h
  refine ⟨⟨a1, ?_, a3⟩, r⟩
  obtain ⟨q0, q1, q2, q3, q4, q5, q6, q7, q8, q9, q10, q11, q12, q17⟩ := a2
  exact ⟨q0, q1, q2, q3, q4, q5, q6, q7, q8, by rw [h9]; exact q9, h10, h11, q12, q17⟩
theorem sp_V_8 (h : sp_V N O Z B) {s : Nat} (hv : sp_v N n = (decide (s = 3) || decide (s = 4))) (h2 : 2 ≤ s ↔ 2 ≤ N 8 n) (he : s = 2 ↔ N 8 n = 2) (hBd : sp_Bd (sp_u N 8 n s) O') (hz : Z' 18 0 = Z 18 0) (hc1 : ∀ t c, t < N 6 0 → O' 9 t = some c → c < t) (hg1 : ∀ t c, t < N 6 0 → O' 9 t = some c → sp_u N 8 n s 8 t < 5 → sp_u N 8 n s 8 c = 4) (hg2 : ∀ t u c, t < N 6 0 → u < N 6 0 → O' 9 t = some c → O' 9 u = some c → sp_u N 8 n s 8 t < 5 → sp_u N 8 n s 8 u < 5 → t = u) : sp_V (sp_u N 8 n s) O' Z' B := by
  have u' : ∀ f, f ≠ 8 → sp_u N 8 n s f = N f := fun f a => sp_u_f N n s a
  have e1 := u' 1 (by decide)
  have e2 := u' 2 (by decide)
  have e6 := u' 6 (by decide)
  have e7 := u' 7 (by decide)
  have e12 := u' 12 (by decide)
  have e16 := u' 16 (by decide)
  have hvv : ∀ u, sp_v (sp_u N 8 n s) u = sp_v N u := sp_u8v hv
  have h22 : ∀ u, (2 ≤ sp_u N 8 n s 8 u ↔ 2 ≤ N 8 u) := fun u => by
    rw [sp_u8]
    by_cases hu : u = n
    · rw [if_pos hu, hu]; exact h2
    · rw [if_neg hu]
  have hee : ∀ u, (sp_u N 8 n s 8 u = 2 ↔ N 8 u = 2) := fun u => by
    rw [sp_u8]
    by_cases hu : u = n
    · rw [if_pos hu, hu]; exact he
    · rw [if_neg hu]
  obtain ⟨⟨a1, a2, a3⟩, b1, b2, c1, c2, d1, d2, d3, d4, f1, g1, g2, k1⟩ := h
  refine ⟨⟨sp_Tr_cg a1 e1 e2, hBd, by rw [u' 0 (by decide)]; exact a3⟩, by rw [u' 4 (by decide), u' 3 (by decide)]; exact b1, by rw [e1, u' 4 (by decide), u' 5 (by decide)]; exact b2, fun t ht => ?_, by rw [e6]; exact c2, fun t ht hz2 => ?_, ?_, fun t u ht hu z1 z2 z3 => ?_, fun t u ht hu z1 z2 z3 z4 => ?_, fun j hj => ?_, fun t c ht => ?_, fun t u c ht hu => ?_, by rw [hz]; exact k1⟩
  · rw [e6] at ht
    rw [e1, e7]
    exact ⟨(c1 t ht).1, (c1 t ht).2.1, fun c hc => hc1 t c ht hc⟩
  · rw [e6] at ht
    rw [e12, e16]
    exact d1 t ht ((h22 t).mp hz2)
  · rw [e16, d2, e6]
    exact sp_c_congr (fun u _ => decide_eq_decide.mpr (h22 u).symm)
  · rw [e6] at ht hu
    rw [e12] at z3
    exact d3 t u ht hu ((hee t).mp z1) ((hee u).mp z2) z3
  · rw [e6] at ht hu
    rw [hvv] at z1 z3
    rw [e7] at z4
    exact d4 t u ht hu z1 z2 z3 z4
  · rw [e1] at hj
    rw [sp_p_v e2 e6 e7 (fun u _ => hvv u), u' 5 (by decide)]
    exact f1 j hj
  · rw [e6] at ht
    exact hg1 t c ht
  · rw [e6] at ht hu
    exact hg2 t u c ht hu
theorem mt_mem (h : cl_R M X F G N O Z B) (hn : n < N 6 0) (h5 : N 8 n < 5) (h10 : O 10 n = none) {g : Nat} (hg : g < 4) : cl_R (sp_u M (4 + g) 1 (M (4 + g) 1 + 1)) X (sp_u F (20 + n) 6 (some (4 + g))) G N (sp_u O 10 n (some g)) Z B := by
  obtain ⟨hS, hD, hV, hB⟩ := h
  have h12 := cl_12 hS
  have h160 := cl_160 hS
  have o9 : sp_u O 10 n (some g) 9 = O 9 := sp_u_f _ _ _ (by decide)
  have o11 : sp_u O 10 n (some g) 11 = O 11 := sp_u_f _ _ _ (by decide)
  have fo : ∀ k f, f ≠ 6 → sp_u F (20 + n) 6 (some (4 + g)) k f = F k f := fun k f hf => sp_u_n _ _ (Or.inr hf)
  have hom : ∀ g', sp_om N (sp_u O 10 n (some g)) g' = if g' = g then sp_om N O g' + 1 else sp_om N O g' := by
    intro g'
    unfold sp_om
    by_cases hgg : g' = g
    · rw [if_pos hgg]
      refine sp_c_up (a := n) (fun u _ hu => by rw [sp_u_n _ _ (Or.inr hu)]) hn ?_ ?_
      · rw [h10]; rfl
      · rw [sp_u_self, hgg, decide_eq_true h5]; simp
    · rw [if_neg hgg]
      refine sp_c_congr (fun u _ => ?_)
      by_cases hu : u = n
      · rw [hu, sp_u_self, h10, decide_eq_false (show ¬ some g = some g' from fun z => hgg (Option.some.inj z).symm), decide_eq_false (show ¬ none = some g' from fun z => by cases z)]
      · rw [sp_u_n _ _ (Or.inr hu)]
  have hM1 := (hD.2.2.2 g hg).2
  have hle : sp_om N O g ≤ N 6 0 := sp_c_le _ _
  refine ⟨cl_S_M (cl_S_m hS hn hg) (by decide) (Or.inl (by omega)), ?_, sp_V_O hV o9 (fun t k hz => ?_) (by rw [o11]; exact hV.1.2.1.2.2.2.2.2.2.2.2.2.2.2.1), cl_B_u hB (by omega)⟩
  · obtain ⟨⟨a1, a2, a3, a4⟩, b, c, d⟩ := hD
    have m : ∀ k f, f ≠ 1 ∨ k ≠ 4 + g → sp_u M (4 + g) 1 (M (4 + g) 1 + 1) k f = M k f := fun k f hf => sp_u_n _ _ hf.symm
    refine ⟨⟨?_, ?_, ?_, a4⟩, fun j hj => ?_, fun u hu => ?_, fun g' hg' => ?_⟩
    · rw [m _ _ (Or.inl (by decide))]; exact a1
    · rw [m _ _ (Or.inl (by decide))]
      unfold sp_w
      rw [o9]; exact a2
    · rw [m _ _ (Or.inl (by decide))]; exact a3
    · rw [m _ 1 (Or.inr (by omega)), m _ 3 (Or.inl (by decide)), m _ 6 (Or.inl (by decide)), m _ 7 (Or.inl (by decide)), m _ 8 (Or.inl (by decide))]
      obtain ⟨q1, q2, q3, q4, q5, q6, l, hl⟩ := b j hj
      exact ⟨q1, q2, q3, q4, q5, q6, l, hl.1, hl.2.1, by rw [fo _ _ (by decide)]; exact hl.2.2.1, by rw [fo _ _ (by decide)]; exact hl.2.2.2.1, cl_K_cg (fun v _ => fo _ _ (by decide)) hl.2.2.2.2⟩
    · rw [m _ 3 (Or.inl (by decide)), m _ 9 (Or.inl (by decide)), fo _ _ (by decide), fo _ _ (by decide), o11]
      exact c u hu
    · rw [m _ 0 (Or.inl (by decide)), hom]
      refine ⟨(d g' hg').1, ?_⟩
      by_cases hgg : g' = g
      · rw [if_pos hgg, hgg, sp_u_self, hM1]
      · rw [if_neg hgg, m _ _ (Or.inr (by omega))]
        exact (d g' hg').2
  · rw [sp_u_app] at hz
    split at hz
    · cases hz; exact hg
    · exact hV.1.2.1.2.2.2.2.2.2.2.2.2.2.1 t k hz
theorem mt_caller (h : cl_R M X F G N O Z B) (hn : n < N 6 0) (h0 : N 8 n = 0) (h9 : O 9 n = none) {c : Nat} (hc : c < n) (hc3 : N 8 c = 3) : cl_R (sp_u M (20 + c) 3 4) X (sp_u F (20 + n) 5 (some (20 + c))) G (sp_u N 8 c 4) (sp_u O 9 n (some c)) Z B := by
  obtain ⟨hS, hD, hV, hB⟩ := h
  have h12 := cl_12 hS
  have h160 := cl_160 hS
  have u' : ∀ f, f ≠ 8 → sp_u N 8 c 4 f = N f := fun f a => sp_u_f N c 4 a
  have o10 : sp_u O 9 n (some c) 10 = O 10 := sp_u_f _ _ _ (by decide)
  have o11 : sp_u O 9 n (some c) 11 = O 11 := sp_u_f _ _ _ (by decide)
  have hv0 : sp_v N c = (decide (4 = 3) || decide (4 = 4)) := by unfold sp_v; rw [hc3]; rfl
  have hvv : ∀ u, u < N 6 0 → sp_v (sp_u N 8 c 4) u = sp_v N u := fun u _ => sp_u8v hv0 u
  have h55 : ∀ u, (sp_u N 8 c 4 8 u < 5 ↔ N 8 u < 5) := fun u => by
    rw [sp_u8]
    by_cases hu : u = c
    · rw [if_pos hu, hu]; omega
    · rw [if_neg hu]
  have hee : ∀ u, (sp_u N 8 c 4 8 u = 2 ↔ N 8 u = 2) := fun u => by
    rw [sp_u8]
    by_cases hu : u = c
    · rw [if_pos hu, hu]; omega
    · rw [if_neg hu]
  have o9 : ∀ u k, sp_u O 9 n (some c) 9 u = some k → (u = n ∧ k = c) ∨ (u ≠ n ∧ O 9 u = some k) := fun u k hz => by
    rw [sp_u_app] at hz
    by_cases hu : u = n
    · rw [if_pos ⟨rfl, hu⟩] at hz
      exact Or.inl ⟨hu, (Option.some.inj hz).symm⟩
    · rw [if_neg (fun z => hu z.2)] at hz
      exact Or.inr ⟨hu, hz⟩
  have g1 := hV.2.2.2.2.2.2.2.2.2.2.1
  have g2 := hV.2.2.2.2.2.2.2.2.2.2.2.1
  refine ⟨cl_S_cg (cl_S_M (cl_S_k hS hn hc) (by decide) (Or.inl (by omega))) (u' 1 (by decide)) (u' 2 (by decide)) (u' 6 (by decide)) (u' 7 (by decide)), ?_, ?_, cl_B_u hB (by decide)⟩
  · obtain ⟨⟨a1, a2, a3, a4⟩, b, cb, d⟩ := hD
    have m : ∀ k f, f ≠ 3 ∨ k ≠ 20 + c → sp_u M (20 + c) 3 4 k f = M k f := fun k f hf => sp_u_n _ _ hf.symm
    have fo : ∀ k f, f ≠ 5 ∨ k ≠ 20 + n → sp_u F (20 + n) 5 (some (20 + c)) k f = F k f := fun k f hf => sp_u_n _ _ hf.symm
    refine ⟨⟨?_, ?_, ?_, a4⟩, fun j hj => ?_, fun u hu => ?_, fun g hg => ?_⟩
    · rw [m _ _ (Or.inl (by decide)), u' 0 (by decide)]; exact a1
    · rw [m _ _ (Or.inl (by decide)), a2]
      unfold sp_w
      rw [u' 6 (by decide)]
      refine sp_c_congr (fun u hu => ?_)
      rw [hvv u hu]
      by_cases hun : u = n
      · have hv1 : sp_v N n = false := by unfold sp_v; rw [h0]; rfl
        rw [hun, hv1]; rfl
      · rw [sp_u_n _ _ (Or.inr hun)]
    · rw [m _ _ (Or.inl (by decide)), u' 16 (by decide)]; exact a3
    · rw [u' 1 (by decide)] at hj
      obtain ⟨q1, q2, q3, q4, q5, q6, l, hl⟩ := b j hj
      have hq : sp_q (sp_u N 8 c 4) j = sp_q N j := by
        unfold sp_q
        rw [u' 6 (by decide), u' 7 (by decide)]
        exact sp_c_congr (fun u _ => by rw [show decide (sp_u N 8 c 4 8 u = 2) = decide (N 8 u = 2) from decide_eq_decide.mpr (hee u)])
      rw [m _ 1 (Or.inl (by decide)), m _ 3 (Or.inr (by omega)), m _ 6 (Or.inl (by decide)), m _ 7 (Or.inl (by decide)), m _ 8 (Or.inl (by decide)), u' 3 (by decide), u' 4 (by decide), u' 5 (by decide), hq, sp_p_v (u' 2 (by decide)) (u' 6 (by decide)) (u' 7 (by decide)) hvv, sp_b_v (u' 6 (by decide)) (u' 7 (by decide)) hvv]
      refine ⟨q1, q2, q3, q4, q5, q6, l, fun u => ?_, ?_, by rw [fo _ _ (Or.inl (by decide))]; exact hl.2.2.1, by rw [fo _ _ (Or.inr (by omega))]; exact hl.2.2.2.1, cl_K_cg (fun v _ => fo _ _ (Or.inl (by decide))) hl.2.2.2.2⟩
      · rw [u' 6 (by decide), u' 7 (by decide), hee u]; exact hl.1 u
      · rw [u' 12 (by decide)]; exact hl.2.1
    · rw [u' 6 (by decide)] at hu
      obtain ⟨c1, c2, c3, c4, c5, c6⟩ := cb u hu
      rw [m _ 9 (Or.inl (by decide)), fo _ _ (Or.inl (by decide)), fo _ _ (Or.inl (by decide)), o11, u' 12 (by decide), sp_u8]
      by_cases huc : u = c
      · rw [if_pos huc, huc, sp_u_self]
        rw [huc] at c2
        exact ⟨rfl, c2, fun z => (by cases z), fun z => (by cases z), fun z => (by cases z), fun z => (by omega)⟩
      · rw [if_neg huc, m _ _ (Or.inr (by omega))]
        exact ⟨c1, c2, c3, c4, c5, c6⟩
    · rw [m _ _ (Or.inl (by decide)), m _ _ (Or.inl (by decide)), u' 17 (by decide)]
      have ho : sp_om (sp_u N 8 c 4) (sp_u O 9 n (some c)) g = sp_om N O g := by
        rw [sp_om_v (u' 6 (by decide)) (fun u _ => h55 u)]
        unfold sp_om
        rw [o10]
      rw [ho]
      exact d g hg
  · refine sp_V_8 hV hv0 (by omega) (by omega) ?_ rfl (fun t k ht hz => ?_) (fun t k ht hz h5 => ?_) (fun t u k ht hu hz1 hz2 h51 h52 => ?_)
    · have hb := sp_Bd_8 hV.1.2.1 c 4 (by decide)
      obtain ⟨q0, q1, q2, q3, q4, q5, q6, q7, q8, q9, q10, q11, q12, q17⟩ := hb
      refine ⟨q0, q1, q2, q3, q4, q5, q6, q7, q8, fun t k hz => ?_, by rw [o10]; exact q10, by rw [o11]; exact q11, q12, q17⟩
      rcases o9 t k hz with ⟨_, z⟩ | ⟨_, z⟩
      · omega
      · exact q9 t k z
    · rcases o9 t k hz with ⟨z1, z2⟩ | ⟨_, z⟩
      · omega
      · exact (hV.2.2.2.1 t ht).2.2 k z
    · rw [sp_u8]
      rcases o9 t k hz with ⟨z1, z2⟩ | ⟨_, z⟩
      · rw [if_pos z2]
      · have h4 := g1 t k ht z ((h55 t).mp h5)
        rw [if_neg (fun q => by rw [q] at h4; omega)]
        exact h4
    · rw [h55] at h51 h52
      rcases o9 t k hz1 with ⟨z1, z2⟩ | ⟨_, z⟩
      · rcases o9 u k hz2 with ⟨z3, _⟩ | ⟨_, z4⟩
        · rw [z1, z3]
        · have h4 := g1 u k hu z4 h52
          rw [z2] at h4
          omega
      · rcases o9 u k hz2 with ⟨z3, z4⟩ | ⟨_, z4⟩
        · have h4 := g1 t k ht z h51
          rw [z4] at h4
          omega
        · exact g2 t u k ht hu z z4 h51 h52
theorem mt_delay (h : cl_R M X F G N O Z B) (hn : n < N 6 0) (h0 : N 8 n = 0) (v : Int64) : cl_R (sp_u M (20 + n) 3 1) X F (sp_u G (20 + n) 8 v) (sp_u N 8 n 1) O (sp_u Z 13 n v) B := by
  obtain ⟨hS, hD, hV, hB⟩ := h
  have h12 := cl_12 hS
  have h160 := cl_160 hS
  have u' : ∀ f, f ≠ 8 → sp_u N 8 n 1 f = N f := fun f a => sp_u_f N n 1 a
  have hv0 : sp_v N n = (decide (1 = 3) || decide (1 = 4)) := by unfold sp_v; rw [h0]; rfl
  have hvv : ∀ u, u < N 6 0 → sp_v (sp_u N 8 n 1) u = sp_v N u := fun u _ => sp_u8v hv0 u
  have h55 : ∀ u, (sp_u N 8 n 1 8 u < 5 ↔ N 8 u < 5) := fun u => by
    rw [sp_u8]
    by_cases hu : u = n
    · rw [if_pos hu, hu]; omega
    · rw [if_neg hu]
  have hee : ∀ u, (sp_u N 8 n 1 8 u = 2 ↔ N 8 u = 2) := fun u => by
    rw [sp_u8]
    by_cases hu : u = n
    · rw [if_pos hu, hu]; omega
    · rw [if_neg hu]
  refine ⟨cl_S_cg (cl_S_M hS (by decide) (Or.inl (by omega))) (u' 1 (by decide)) (u' 2 (by decide)) (u' 6 (by decide)) (u' 7 (by decide)), ?_, ?_, cl_B_u hB (by decide)⟩
  · obtain ⟨⟨a1, a2, a3, a4⟩, b, cb, d⟩ := hD
    have m : ∀ k f, f ≠ 3 ∨ k ≠ 20 + n → sp_u M (20 + n) 3 1 k f = M k f := fun k f hf => sp_u_n _ _ hf.symm
    refine ⟨⟨?_, ?_, ?_, ?_⟩, fun j hj => ?_, fun u hu => ?_, fun g hg => ?_⟩
    · rw [m _ _ (Or.inl (by decide)), u' 0 (by decide)]; exact a1
    · rw [m _ _ (Or.inl (by decide)), sp_w_v (u' 6 (by decide)) hvv]; exact a2
    · rw [m _ _ (Or.inl (by decide)), u' 16 (by decide)]; exact a3
    · rw [sp_u_n _ _ (Or.inl (by omega)), sp_u_n _ _ (Or.inl (by decide))]; exact a4
    · rw [u' 1 (by decide)] at hj
      obtain ⟨q1, q2, q3, q4, q5, q6, l, hl⟩ := b j hj
      have hq : sp_q (sp_u N 8 n 1) j = sp_q N j := by
        unfold sp_q
        rw [u' 6 (by decide), u' 7 (by decide)]
        exact sp_c_congr (fun u _ => by rw [show decide (sp_u N 8 n 1 8 u = 2) = decide (N 8 u = 2) from decide_eq_decide.mpr (hee u)])
      rw [m _ 1 (Or.inl (by decide)), m _ 3 (Or.inr (by omega)), m _ 6 (Or.inl (by decide)), m _ 7 (Or.inl (by decide)), m _ 8 (Or.inl (by decide)), u' 3 (by decide), u' 4 (by decide), u' 5 (by decide), hq, sp_p_v (u' 2 (by decide)) (u' 6 (by decide)) (u' 7 (by decide)) hvv, sp_b_v (u' 6 (by decide)) (u' 7 (by decide)) hvv]
      refine ⟨q1, q2, q3, q4, q5, q6, l, fun u => ?_, ?_, hl.2.2⟩
      · rw [u' 6 (by decide), u' 7 (by decide), hee u]; exact hl.1 u
      · rw [u' 12 (by decide)]; exact hl.2.1
    · rw [u' 6 (by decide)] at hu
      obtain ⟨c1, c2, c3, c4, c5, c6⟩ := cb u hu
      rw [m _ 9 (Or.inl (by decide)), u' 12 (by decide), sp_u8]
      by_cases huc : u = n
      · rw [if_pos huc, huc, sp_u_self, sp_u_self, sp_u_self]
        rw [huc] at c2 c6
        exact ⟨rfl, c2, fun z => (by cases z), fun _ => rfl, fun z => (by cases z), fun _ => c6 (by omega)⟩
      · rw [if_neg huc, m _ _ (Or.inr (by omega)), sp_u_n _ _ (Or.inl (by omega)), sp_u_n _ _ (Or.inr huc)]
        exact ⟨c1, c2, c3, c4, c5, c6⟩
    · rw [m _ _ (Or.inl (by decide)), m _ _ (Or.inl (by decide)), u' 17 (by decide), sp_om_v (u' 6 (by decide)) (fun u _ => h55 u)]
      exact d g hg
  · have g1 := hV.2.2.2.2.2.2.2.2.2.2.1
    have g2 := hV.2.2.2.2.2.2.2.2.2.2.2.1
    refine sp_V_8 hV hv0 (by omega) (by omega) (sp_Bd_8 hV.1.2.1 n 1 (by decide)) (sp_u_n _ _ (Or.inl (by decide))) (fun t k ht hz => (hV.2.2.2.1 t ht).2.2 k hz) (fun t k ht hz h5 => ?_) (fun t u k ht hu hz1 hz2 h51 h52 => ?_)
    · have h4 := g1 t k ht hz ((h55 t).mp h5)
      rw [sp_u8, if_neg (fun q => by rw [q] at h4; omega)]
      exact h4
    · rw [h55] at h51 h52
      exact g2 t u k ht hu hz1 hz2 h51 h52
theorem mt_await2 (h : cl_R M X F G N O Z B) (h0 : N 8 n ≠ 0) {k : Nat} (hk : k < 4) : cl_R M X F G N (sp_u O 11 n (some k)) Z B := by
  obtain ⟨hS, hD, hV, hB⟩ := h
  have o9 : sp_u O 11 n (some k) 9 = O 9 := sp_u_f _ _ _ (by decide)
  have o10 : sp_u O 11 n (some k) 10 = O 10 := sp_u_f _ _ _ (by decide)
  refine ⟨?_, ?_, sp_V_O hV o9 (by rw [o10]; exact hV.1.2.1.2.2.2.2.2.2.2.2.2.2.1) (fun t q hz => ?_), hB⟩
  · unfold cl_S at hS ⊢
    rw [o9, o10]; exact hS
  · obtain ⟨a, b, c, d⟩ := hD
    refine ⟨?_, b, fun u hu => ?_, fun g hg => ?_⟩
    · unfold sp_w at a ⊢
      rw [o9]; exact a
    · obtain ⟨c1, c2, c3, c4⟩ := c u hu
      refine ⟨c1, c2, fun z => ?_, c4⟩
      rw [sp_u_n _ _ (Or.inr (fun q => h0 (by rw [← q]; exact z)))]
      exact c3 z
    · unfold sp_om
      rw [o10]; exact d g hg
  · rw [sp_u_app] at hz
    split at hz
    · cases hz; exact hk
    · exact hV.1.2.1.2.2.2.2.2.2.2.2.2.2.2.1 t q hz
theorem mt_await (h : cl_R M X F G N O Z B) (hn : n < N 6 0) (h0 : N 8 n = 0) {k : Nat} (hk : k < 4) : cl_R (sp_u M (20 + n) 3 0) X (sp_u F (20 + n) 7 (some (4 + k))) G N (sp_u O 11 n (some k)) Z B := by
  obtain ⟨hS, hD, hV, hB⟩ := h
  have h12 := cl_12 hS
  have o9 : sp_u O 11 n (some k) 9 = O 9 := sp_u_f _ _ _ (by decide)
  have o10 : sp_u O 11 n (some k) 10 = O 10 := sp_u_f _ _ _ (by decide)
  have fo : ∀ q f, f ≠ 7 ∨ q ≠ 20 + n → sp_u F (20 + n) 7 (some (4 + k)) q f = F q f := fun q f hf => sp_u_n _ _ hf.symm
  have m : ∀ q f, f ≠ 3 ∨ q ≠ 20 + n → sp_u M (20 + n) 3 0 q f = M q f := fun q f hf => sp_u_n _ _ hf.symm
  refine ⟨?_, ?_, sp_V_O hV o9 (by rw [o10]; exact hV.1.2.1.2.2.2.2.2.2.2.2.2.2.1) (fun t q hz => ?_), cl_B_u hB (by decide)⟩
  · have h1 := cl_S_M (k := 20 + n) (f := 3) (v := 0) hS (by decide) (Or.inl (by omega))
    obtain ⟨⟨a1, a2, a3, a4, a5⟩, b1, c1, d1, d2, d3, d4, d5, d6, d7⟩ := h1
    refine ⟨⟨a1, a2, a3, a4, ?_⟩, fun j hj => ?_, fun t ht => ?_, by rw [o9]; exact d1, by rw [o10]; exact d2, fun g hg => ?_, fun j q hj hq => ?_, fun j q hj hq => ?_, fun t q ht hq => ?_, fun t q ht hq => ?_⟩
    · rw [fo _ _ (Or.inl (by decide)), fo _ _ (Or.inl (by decide)), fo _ _ (Or.inl (by decide))]; exact a5
    · rw [fo _ _ (Or.inr (by omega)), fo _ _ (Or.inl (by decide))]; exact b1 j hj
    · rw [fo _ _ (Or.inr (by omega)), fo _ _ (Or.inl (by decide)), fo _ _ (Or.inl (by decide)), fo _ _ (Or.inl (by decide)), o9, o10]; exact c1 t ht
    · rw [fo _ _ (Or.inr (by omega))]; exact d3 g hg
    · rw [fo _ _ (Or.inl (by decide))] at hq; exact d4 j q hj hq
    · rw [fo _ _ (Or.inl (by decide))] at hq; exact d5 j q hj hq
    · rw [fo _ _ (Or.inl (by decide))] at hq; exact d6 t q ht hq
    · rw [sp_u_app] at hq
      split at hq
      · cases hq; exact ⟨k, hk, rfl⟩
      · exact d7 t q ht hq
  · obtain ⟨⟨a1, a2, a3, a4⟩, b, c, d⟩ := hD
    refine ⟨⟨?_, ?_, ?_, a4⟩, fun j hj => ?_, fun u hu => ?_, fun g hg => ?_⟩
    · rw [m _ _ (Or.inl (by decide))]; exact a1
    · rw [m _ _ (Or.inl (by decide))]
      unfold sp_w
      rw [o9]; exact a2
    · rw [m _ _ (Or.inl (by decide))]; exact a3
    · obtain ⟨q1, q2, q3, q4, q5, q6, l, hl⟩ := b j hj
      rw [m _ 1 (Or.inl (by decide)), m _ 3 (Or.inr (by omega)), m _ 6 (Or.inl (by decide)), m _ 7 (Or.inl (by decide)), m _ 8 (Or.inl (by decide))]
      exact ⟨q1, q2, q3, q4, q5, q6, l, hl.1, hl.2.1, by rw [fo _ _ (Or.inl (by decide))]; exact hl.2.2.1, by rw [fo _ _ (Or.inl (by decide))]; exact hl.2.2.2.1, cl_K_cg (fun v _ => fo _ _ (Or.inl (by decide))) hl.2.2.2.2⟩
    · obtain ⟨c1, c2, c3, c4, c5, c6⟩ := c u hu
      rw [m _ 9 (Or.inl (by decide)), fo _ 10 (Or.inl (by decide))]
      by_cases hun : u = n
      · rw [hun] at c2 c4 c5 c6 ⊢
        rw [sp_u_self, sp_u_self, sp_u_self]
        exact ⟨h0.symm, c2, fun _ => rfl, c4, c5, c6⟩
      · rw [m _ _ (Or.inr (by omega)), fo _ _ (Or.inr (by omega)), sp_u_n _ _ (Or.inr hun)]
        exact ⟨c1, c2, c3, c4, c5, c6⟩
    · rw [m _ _ (Or.inl (by decide)), m _ _ (Or.inl (by decide))]
      unfold sp_om
      rw [o10]; exact d g hg
  · rw [sp_u_app] at hz
    split at hz
    · cases hz; exact hk
    · exact hV.1.2.1.2.2.2.2.2.2.2.2.2.2.2.1 t q hz
end MN2
