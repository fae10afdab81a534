/-! Part 45: finish, the cancelled block, the start of a block. -/
section MS
variable {M : sp_N} {X : sp_B} {F F' : sp_O} {G : sp_Z} {N N' : sp_N} {O : sp_O} {Z : sp_Z} {B : sp_B} {t : Nat}
theorem cs_xF_o (F : sp_O) (j : Nat) {k f : Nat} (h : k ≠ 8 + j ∨ (f ≠ 4 ∧ f ≠ 5)) : cs_xF F j k f = F k f := by
  unfold cs_xF
  cases F (8 + j) 4 with
  | none => rfl
  | some k2 =>
    dsimp only
    cases F k2 10 with
    | none =>
      dsimp only
      rcases h with h | h
      · rw [sp_u_n _ _ (Or.inl h), sp_u_n _ _ (Or.inl h)]
      · rw [sp_u_n _ _ (Or.inr h.2), sp_u_n _ _ (Or.inr h.1)]
    | some k3 =>
      dsimp only
      rcases h with h | h
      · rw [sp_u_n _ _ (Or.inl h)]
      · rw [sp_u_n _ _ (Or.inr h.1)]
theorem mt_dropL (hD : cl_D M X F G N O Z B) (ht : t < N 6 0) (hj : N 7 t < N 1 0) (ho : sp_o N (N 7 t) (N 6 0) = some t) {s : Nat} (hs : s ≠ 2) {j : Nat} (hj' : j < N 1 0) : ∃ l, cl_L (cs_xF F (N 7 t)) (sp_u N 8 t s) j l := by
  have h8 := (sp_o_some ho).2.1
  have u' : ∀ f, f ≠ 8 → sp_u N 8 t s f = N f := fun f a => sp_u_f N t s a
  obtain ⟨l, hl⟩ := (hD.2.1 j hj').2.2.2.2.2.2
  by_cases hjj : j = N 7 t
  · subst hjj
    have h4 := mr_f hD hj
    rw [ho] at h4
    have h4 : F (8 + N 7 t) 4 = some (20 + t) := h4
    cases l with
    | nil => rw [hl.2.2.1] at h4; cases h4
    | cons a r =>
      have hat : a = t := by
        rw [hl.2.2.1] at h4
        have : 20 + a = 20 + t := Option.some.inj h4
        omega
      subst hat
      have hp := List.pairwise_cons.mp hl.2.1
      have har : a ∉ r := fun z => by have := hp.1 a z; omega
      have mem : ∀ u, u ∈ r ↔ u < sp_u N 8 a s 6 0 ∧ sp_u N 8 a s 8 u = 2 ∧ sp_u N 8 a s 7 u = N 7 a := by
        intro u
        rw [u' 6 (by decide), u' 7 (by decide), sp_u8]
        by_cases hua : u = a
        · rw [if_pos hua]
          exact ⟨fun z => absurd (by rw [← hua]; exact z) har, fun z => absurd z.2.1 hs⟩
        · rw [if_neg hua, ← hl.1 u, List.mem_cons]
          exact ⟨Or.inr, fun z => z.elim (fun q => absurd q hua) id⟩
      cases r with
      | nil =>
        have h10 : F (20 + a) 10 = none := hl.2.2.2.2
        have hx : cs_xF F (N 7 a) = sp_u (sp_u F (8 + N 7 a) 4 none) (8 + N 7 a) 5 none := by
          unfold cs_xF
          rw [h4]
          dsimp only
          rw [h10]
        refine ⟨[], mem, List.Pairwise.nil, ?_, ?_, trivial⟩
        · rw [hx, sp_u_n _ _ (Or.inr (by decide)), sp_u_self]; rfl
        · rw [hx, sp_u_self]; rfl
      | cons b r =>
        have h10 : F (20 + a) 10 = some (20 + b) := hl.2.2.2.2.1
        have hx : cs_xF F (N 7 a) = sp_u F (8 + N 7 a) 4 (some (20 + b)) := by
          unfold cs_xF
          rw [h4]
          dsimp only
          rw [h10]
        refine ⟨b :: r, mem, ?_, ?_, ?_, ?_⟩
        · rw [u' 12 (by decide)]; exact hp.2
        · rw [hx, sp_u_self]; rfl
        · rw [hx, sp_u_n _ _ (Or.inr (by decide)), hl.2.2.2.1, List.getLast?_cons_cons]
        · exact cl_K_cg (fun v _ => cs_xF_o F _ (Or.inr ⟨by decide, by decide⟩)) hl.2.2.2.2.2
  · refine ⟨l, fun u => ?_, ?_, ?_, ?_, ?_⟩
    · rw [u' 6 (by decide), u' 7 (by decide), sp_u8, hl.1 u]
      by_cases hut : u = t
      · rw [if_pos hut, hut]
        exact ⟨fun z => absurd z.2.2.symm hjj, fun z => absurd z.2.2.symm hjj⟩
      · rw [if_neg hut]
    · rw [u' 12 (by decide)]; exact hl.2.1
    · rw [cs_xF_o F _ (Or.inl (by omega))]; exact hl.2.2.1
    · rw [cs_xF_o F _ (Or.inl (by omega))]; exact hl.2.2.2.1
    · exact cl_K_cg (fun v _ => cs_xF_o F _ (Or.inr ⟨by decide, by decide⟩)) hl.2.2.2.2
theorem mt_dropq (ht : t < N 6 0) (h8 : N 8 t = 2) {s : Nat} (hs : s ≠ 2) (j : Nat) : sp_q N j = sp_q (sp_u N 8 t s) j + (if j = N 7 t then 1 else 0) := by
  have u' : ∀ f, f ≠ 8 → sp_u N 8 t s f = N f := fun f a => sp_u_f N t s a
  unfold sp_q
  rw [u' 6 (by decide), u' 7 (by decide)]
  by_cases hjj : j = N 7 t
  · rw [if_pos hjj]
    refine sp_c_up (a := t) (fun u _ hut => ?_) ht ?_ ?_
    · rw [sp_u8, if_neg hut]
    · rw [sp_u8, if_pos rfl, decide_eq_false hs]; rfl
    · rw [h8, hjj]; simp
  · rw [if_neg hjj, Nat.add_zero]
    refine sp_c_congr (fun u _ => ?_)
    by_cases hut : u = t
    · rw [hut, decide_eq_false (show ¬ N 7 t = j from fun z => hjj z.symm), Bool.and_false, Bool.and_false]
    · rw [sp_u8, if_neg hut]
theorem cs_xM_is (hD : cl_D M X F G N O Z B) (hj : N 7 t < N 1 0) (ho : sp_o N (N 7 t) (N 6 0) = some t) : cs_xM M F (N 7 t) = sp_u M (8 + N 7 t) 6 (M (8 + N 7 t) 6 - 1) := by
  have h4 := mr_f hD hj
  rw [ho] at h4
  unfold cs_xM
  rw [h4]
  rfl
theorem sp_u8v {s : Nat} (h : sp_v N t = (decide (s = 3) || decide (s = 4))) (u : Nat) : sp_v (sp_u N 8 t s) u = sp_v N u := by
  unfold sp_v
  rw [sp_u8]
  by_cases hut : u = t
  · rw [if_pos hut, hut]
    exact h.symm
  · rw [if_neg hut]
/-- a cancelled block is taken out of its line -/
theorem mt_skip (h : cl_R M X F G N O Z B) (ht : t < N 6 0) (hm : sp_m N O B t = true) : cl_R (cs_cc (cs_xM M F (N 7 t)) (cs_xF F (N 7 t)) N t 6).1 X (cs_cc (cs_xM M F (N 7 t)) (cs_xF F (N 7 t)) N t 6).2 G (sp_E N O t 6) O Z B ∧ ∀ f, f ≠ 8 → f ≠ 12 → f ≠ 16 → sp_E N O t 6 f = N f := by
  obtain ⟨hS, hD, hV, hB⟩ := h
  have h12 := cl_12 hS
  obtain ⟨h8, ho⟩ := sp_m_1 hm
  have hj := cl_hl hS ht
  have hx := cs_xM_is hD hj ho
  have u' : ∀ f, f ≠ 8 → sp_u N 8 t 6 f = N f := fun f a => sp_u_f N t 6 a
  have hv : ∀ u, u < N 6 0 → sp_v (sp_u N 8 t 6) u = sp_v N u := fun u _ => sp_u8v (by unfold sp_v; rw [h8]; rfl) u
  refine mt_E (cl_S_x hS hj) ?_ hV ?_ ht (Or.inl h8) (Or.inr rfl)
  · obtain ⟨⟨a1, a2, a3, a4⟩, b, c, d⟩ := hD
    have mo : ∀ k f, (k ≠ 8 + N 7 t ∨ f ≠ 6) → cs_xM M F (N 7 t) k f = M k f := fun k f z => by rw [hx]; exact sp_u_n _ _ z
    refine ⟨⟨?_, ?_, ?_, a4⟩, fun j hj' => ?_, fun u hu => ?_, fun g hg => ?_⟩
    · rw [mo _ _ (Or.inl (by omega))]; exact a1
    · rw [mo _ _ (Or.inl (by omega)), sp_w_v (u' 6 (by decide)) hv]; exact a2
    · rw [mo _ _ (Or.inl (by omega))]; exact a3
    · obtain ⟨q1, q2, q3, q4, q5, q6, _⟩ := b j hj'
      rw [mo _ 1 (Or.inr (by decide)), mo _ 3 (Or.inr (by decide)), mo _ 7 (Or.inr (by decide)), mo _ 8 (Or.inr (by decide)), sp_p_v (u' 2 (by decide)) (u' 6 (by decide)) (u' 7 (by decide)) hv, sp_b_v (u' 6 (by decide)) (u' 7 (by decide)) hv]
      refine ⟨q1, q2, ?_, q4, q5, q6, mt_dropL ⟨⟨a1, a2, a3, a4⟩, b, c, d⟩ ht hj ho (by decide) hj'⟩
      have h1 := mt_dropq (N := N) ht h8 (s := 6) (by decide) j
      rw [hx, sp_u_app]
      by_cases hjj : j = N 7 t
      · rw [if_pos hjj] at h1
        rw [if_pos ⟨by omega, rfl⟩, ← hjj]
        omega
      · rw [if_neg hjj] at h1
        rw [if_neg (fun z => hjj (by omega))]
        omega
    · rw [mo _ 3 (Or.inr (by decide)), mo _ 9 (Or.inr (by decide)), cs_xF_o F _ (Or.inr ⟨by decide, by decide⟩), cs_xF_o F _ (Or.inr ⟨by decide, by decide⟩)]
      obtain ⟨c1, c2, c3, c4, c5, c6⟩ := c u hu
      exact ⟨fun _ => c1, c2, c3, c4, c5, c6⟩
    · rw [mo _ _ (Or.inr (by decide)), mo _ _ (Or.inr (by decide))]
      exact d g hg
  · rw [hx]
    have := hB (8 + N 7 t) 6
    exact cl_B_u hB (by omega)
/-- a live block goes: the counts above it fall -/
theorem mt_livep (ht : t < N 6 0) (hv : sp_v N t = true) {s : Nat} (hs : (decide (s = 3) || decide (s = 4)) = false) (x : Nat) : sp_p N x = sp_p (sp_u N 8 t s) x + (if sp_l N (N 7 t) x = true then 1 else 0) := by
  have u' : ∀ f, f ≠ 8 → sp_u N 8 t s f = N f := fun f a => sp_u_f N t s a
  have hvu : ∀ u, u ≠ t → sp_v (sp_u N 8 t s) u = sp_v N u := fun u hut => by unfold sp_v; rw [sp_u8, if_neg hut]
  have hvt : sp_v (sp_u N 8 t s) t = false := by unfold sp_v; rw [sp_u8, if_pos rfl]; exact hs
  unfold sp_p
  rw [u' 6 (by decide), u' 7 (by decide)]
  by_cases hl : sp_l N (N 7 t) x = true
  · rw [if_pos hl]
    refine sp_c_up (a := t) (fun u _ hut => ?_) ht ?_ ?_
    · rw [hvu u hut, sp_l_cg (u' 2 (by decide))]
    · rw [hvt]; rfl
    · rw [hv, hl]; rfl
  · rw [if_neg hl, Nat.add_zero]
    refine sp_c_congr (fun u _ => ?_)
    by_cases hut : u = t
    · rw [hut, (Bool.not_eq_true _).mp hl, sp_l_cg (u' 2 (by decide)), (Bool.not_eq_true _).mp hl, Bool.and_false, Bool.and_false]
    · rw [hvu u hut, sp_l_cg (u' 2 (by decide))]
theorem mt_livew (ht : t < N 6 0) (hv : sp_v N t = true) {s : Nat} (hs : (decide (s = 3) || decide (s = 4)) = false) : sp_w N O = sp_w (sp_u N 8 t s) O + (if O 9 t = none then 1 else 0) := by
  have u' : ∀ f, f ≠ 8 → sp_u N 8 t s f = N f := fun f a => sp_u_f N t s a
  have hvu : ∀ u, u ≠ t → sp_v (sp_u N 8 t s) u = sp_v N u := fun u hut => by unfold sp_v; rw [sp_u8, if_neg hut]
  have hvt : sp_v (sp_u N 8 t s) t = false := by unfold sp_v; rw [sp_u8, if_pos rfl]; exact hs
  unfold sp_w
  rw [u' 6 (by decide)]
  by_cases hl : O 9 t = none
  · rw [if_pos hl]
    refine sp_c_up (a := t) (fun u _ hut => by rw [hvu u hut]) ht ?_ ?_
    · rw [hvt]; rfl
    · rw [hv, decide_eq_true hl]; rfl
  · rw [if_neg hl, Nat.add_zero]
    refine sp_c_congr (fun u _ => ?_)
    by_cases hut : u = t
    · rw [hut, decide_eq_false hl, Bool.and_false, Bool.and_false]
    · rw [hvu u hut]
theorem cs_dn_o (K : sp_N) (y : Nat) {k f : Nat} (h : f ≠ 7) : cs_dn N y K k f = K k f := by
  unfold cs_dn
  rw [if_neg h]
  split <;> rfl
theorem cs_dn_7 (K : sp_N) (y : Nat) {x : Nat} (hx : x < N 1 0) : cs_dn N y K (8 + x) 7 = if sp_l N y x = true then K (8 + x) 7 - 1 else K (8 + x) 7 := by
  unfold cs_dn
  rw [if_pos rfl, Nat.add_sub_cancel_left]
  by_cases h : sp_l N y x = true
  · rw [if_pos ⟨by omega, by omega, h⟩, if_pos h]
  · rw [if_neg (fun z => h z.2.2), if_neg h]
theorem mt_finish (h : cl_R M X F G N O Z B) (ht : t < N 6 0) (h8 : N 8 t = 3) : cl_R (cs_cc (cs_wM M F N t) F N t 5).1 (cs_wX X N t) (cs_cc (cs_wM M F N t) F N t 5).2 G (sp_E N O t 5) O Z B := by
  obtain ⟨hS, hD, hV, hB⟩ := h
  have h12 := cl_12 hS
  have hj := cl_hl hS ht
  have u' : ∀ f, f ≠ 8 → sp_u N 8 t 5 f = N f := fun f a => sp_u_f N t 5 a
  have hv : sp_v N t = true := by unfold sp_v; rw [h8]; rfl
  have hxb : X (20 + t) 2 = B 14 t := cl_x hS ht
  have d4 := hV.2.2.2.2.2.2.2.2.1
  refine (mt_E (cl_S_w hS t) ?_ hV (cl_B_w hB F N t) ht (Or.inr h8) (Or.inl rfl)).1
  obtain ⟨⟨a1, a2, a3, a4⟩, b, c, d⟩ := hD
  have h5 : F (20 + t) 5 = (O 9 t).map (fun c => 20 + c) := (hS.2.2.1 t ht).2.2.2.2.2.1
  have hK : ∃ K, cs_wM M F N t = cs_dn N (N 7 t) K ∧ (∀ k f, ¬ (k = 0 ∧ f = 6) → K k f = M k f) ∧ K 0 6 = if O 9 t = none then M 0 6 - 1 else M 0 6 := by
    unfold cs_wM
    rw [h5]
    cases ho : O 9 t with
    | none => exact ⟨_, rfl, fun k f z => by show sp_u M 0 6 (M 0 6 - 1) k f = _; rw [sp_u_app, if_neg z], by rw [if_pos rfl]; exact sp_u_self ..⟩
    | some c => exact ⟨_, rfl, fun k f _ => rfl, by rw [if_neg (fun z => by cases z)]; rfl⟩
  obtain ⟨K, hK1, hK2, hK3⟩ := hK
  rw [hK1]
  have hww := mt_livew (N := N) (O := O) ht hv (s := 5) rfl
  refine ⟨⟨?_, ?_, ?_, a4⟩, fun j hj' => ?_, fun u hu => ?_, fun g hg => ?_⟩
  · rw [cs_dn_o _ _ (by decide), hK2 _ _ (by omega)]; exact a1
  · rw [cs_dn_o _ _ (by decide), hK3]
    by_cases hn : O 9 t = none
    · rw [if_pos hn] at hww ⊢; omega
    · rw [if_neg hn] at hww ⊢; omega
  · have : cs_dn N (N 7 t) K 0 7 = K 0 7 := by
      unfold cs_dn
      rw [if_neg (fun z => by omega)]
    rw [this, hK2 _ _ (by omega)]; exact a3
  · obtain ⟨q1, q2, q3, q4, q5, q6, l, hl⟩ := b j hj'
    rw [cs_dn_7 _ _ hj', cs_dn_o _ _ (by decide), cs_dn_o _ _ (by decide), cs_dn_o _ _ (by decide), cs_dn_o _ _ (by decide), hK2 _ _ (by omega), hK2 _ _ (by omega), hK2 _ _ (by omega), hK2 _ _ (by omega), hK2 _ _ (by omega)]
    have hpp := mt_livep (N := N) ht hv (s := 5) rfl j
    have h2 : ∀ u, (sp_u N 8 t 5 8 u = 2 ↔ N 8 u = 2) := fun u => by
      rw [sp_u8]
      by_cases hut : u = t
      · rw [if_pos hut, hut]; omega
      · rw [if_neg hut]
    refine ⟨q1, q2, ?_, ?_, q5, ?_, l, fun u => ?_, ?_, hl.2.2⟩
    · rw [q3]
      unfold sp_q
      rw [u' 6 (by decide), u' 7 (by decide)]
      exact sp_c_congr (fun u _ => by rw [show decide (sp_u N 8 t 5 8 u = 2) = decide (N 8 u = 2) from decide_eq_decide.mpr (h2 u)])
    · by_cases hll : sp_l N (N 7 t) j = true
      · rw [if_pos hll] at hpp ⊢; omega
      · rw [if_neg hll] at hpp ⊢; omega
    · have hvu : ∀ u, u ≠ t → sp_v (sp_u N 8 t 5) u = sp_v N u := fun u hut => by unfold sp_v; rw [sp_u8, if_neg hut]
      have hvt : sp_v (sp_u N 8 t 5) t = false := by unfold sp_v; rw [sp_u8, if_pos rfl]; rfl
      unfold cs_wX
      rw [hxb]
      by_cases hbb : B 14 t = true
      · rw [if_pos hbb, sp_u_app]
        by_cases hjj : j = N 7 t
        · rw [if_pos ⟨by omega, rfl⟩]
          symm
          refine sp_a_f.mpr (fun u hu => ?_)
          rw [u' 6 (by decide)] at hu
          rw [u' 7 (by decide)]
          by_cases hut : u = t
          · rw [hut, hvt]; rfl
          · rw [hvu u hut]
            cases h1 : sp_v N u with
            | false => rfl
            | true =>
              have h3 : ¬ N 7 u = j := fun z => hut (d4 t u ht hu hv hbb h1 (by rw [z, hjj]))
              rw [decide_eq_false h3, Bool.and_false]
        · rw [if_neg (fun z => hjj (by omega)), q6]
          unfold sp_b
          rw [u' 6 (by decide), u' 7 (by decide)]
          refine sp_a_congr (fun u _ => ?_)
          by_cases hut : u = t
          · rw [hut, decide_eq_false (show ¬ N 7 t = j from fun z => hjj z.symm), Bool.and_false, Bool.and_false]
          · rw [hvu u hut]
      · rw [if_neg hbb, q6]
        unfold sp_b
        rw [u' 6 (by decide), u' 7 (by decide)]
        refine sp_a_congr (fun u _ => ?_)
        by_cases hut : u = t
        · rw [hut, (Bool.not_eq_true _).mp hbb, Bool.and_false, Bool.and_false]
        · rw [hvu u hut]
    · rw [u' 6 (by decide), u' 7 (by decide), h2 u]; exact hl.1 u
    · rw [u' 12 (by decide)]; exact hl.2.1
  · rw [cs_dn_o _ _ (by decide), cs_dn_o _ _ (by decide), hK2 _ _ (by omega), hK2 _ _ (by omega)]
    obtain ⟨c1, c2, c3, c4, c5, c6⟩ := c u hu
    refine ⟨fun _ => c1, ?_, c3, c4, c5, c6⟩
    unfold cs_wX
    split
    · rw [sp_u_n _ _ (Or.inr (by decide))]; exact c2
    · exact c2
  · rw [cs_dn_o _ _ (by decide), cs_dn_o _ _ (by decide), hK2 _ _ (by omega), hK2 _ _ (by omega)]
    exact d g hg
end MS
