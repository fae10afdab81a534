/-! Part 43: release, leave, queue keep the relation. -/
section MQ
variable {M : sp_N} {X : sp_B} {F F' : sp_O} {G : sp_Z} {N N' : sp_N} {O : sp_O} {Z : sp_Z} {B : sp_B}
theorem cs_lM_cg (h7 : N' 7 = N 7) (K : sp_N) (t : Nat) : cs_lM K N' t = cs_lM K N t := by
  unfold cs_lM
  rw [h7]
theorem cs_r_cg (h7 : N' 7 = N 7) (g : Nat) : ∀ n, cs_r M F N' g n = cs_r M F N g n
  | 0 => rfl
  | n + 1 => by
    unfold cs_r
    rw [cs_r_cg h7 g n, cs_lM_cg h7, h7]
theorem cs_R_cg (h6 : N' 6 = N 6) (h7 : N' 7 = N 7) (g : Nat) : cs_R M F N' g = cs_R M F N g := by
  unfold cs_R
  rw [h6, cs_r_cg h7]
theorem mt_r (h : cl_R M X F G N O Z B) {g : Nat} : ∀ n, n ≤ N 6 0 → cl_R (cs_r M F N g n).1 X (cs_r M F N g n).2 G (sp_R N O g n) O Z B ∧ ∀ f, f ≠ 8 → f ≠ 12 → f ≠ 16 → sp_R N O g n f = N f
  | 0, _ => ⟨h, fun _ _ _ _ => rfl⟩
  | n + 1, hn => by
    obtain ⟨i1, i2⟩ := mt_r h (g := g) n (by omega)
    have e6 : sp_R N O g n 6 = N 6 := i2 6 (by decide) (by decide) (by decide)
    have e7 : sp_R N O g n 7 = N 7 := i2 7 (by decide) (by decide) (by decide)
    have hn6 : n < sp_R N O g n 6 0 := by rw [e6]; omega
    obtain ⟨c1, _, c3, _⟩ := i1.2.1.2.2.1 n hn6
    have hc : ((cs_r M F N g n).1 (20 + n) 3 = 0 ∧ (cs_r M F N g n).2 (20 + n) 7 = some (4 + g)) ↔ (sp_R N O g n 8 n = 0 ∧ O 11 n = some g) := by
      rw [c1]
      constructor
      · rintro ⟨a, b⟩
        refine ⟨a, ?_⟩
        rw [c3 a] at b
        cases ho : O 11 n with
        | none => rw [ho] at b; cases b
        | some k =>
          rw [ho] at b
          have h9 : 4 + k = 4 + g := Option.some.inj b
          rw [show k = g by omega]
      · rintro ⟨a, b⟩
        refine ⟨a, ?_⟩
        rw [c3 a, b]
        rfl
    unfold cs_r sp_R
    by_cases hcc : sp_R N O g n 8 n = 0 ∧ O 11 n = some g
    · rw [if_pos hcc, if_pos (hc.mpr hcc)]
      have h1 := mt_line i1 hn6 (by omega)
      rw [cs_lM_cg e7, e7] at h1
      exact ⟨h1, fun f a b c => by rw [sp_L_e _ _ a b c]; exact i2 f a b c⟩
    · rw [if_neg hcc, if_neg (fun z => hcc (hc.mp z))]
      exact ⟨i1, i2⟩
theorem mt_S (h : cl_R M X F G N O Z B) {g : Nat} (hg : g < 4) : cl_R (cs_R M F N g).1 X (cs_R M F N g).2 G (sp_S N O g) O Z B ∧ ∀ f, f ≠ 8 → f ≠ 12 → f ≠ 16 → sp_S N O g f = N f := by
  have hd := h.2.1.2.2.2 g hg
  have hgg : sp_g N O g = N 17 g + sp_om N O g := rfl
  unfold cs_R sp_S
  by_cases hc : 0 < sp_g N O g
  · rw [if_pos hc, if_neg (fun z => by omega)]
    exact ⟨h, fun _ _ _ _ => rfl⟩
  · rw [if_neg hc, if_pos ⟨by omega, by omega⟩]
    exact mt_r h _ (Nat.le_refl _)
theorem mt_leave (h : cl_R M X F G N O Z B) {g : Option Nat} (hg : ∀ k, g = some k → k < 4) : cm_leave M g = am_leave N g ∧ cl_R (cn_leave M F N g).1 X (cn_leave M F N g).2 G (nm_leave N O g) O Z B := by
  cases g with
  | none => exact ⟨rfl, h⟩
  | some k =>
    have hk := hg k rfl
    have hd := (h.2.1.2.2.2 k hk).1
    have h17 : N 17 k ≤ 200 := by
      obtain ⟨q0, q1, q2, q3, q4, q5, q6, q7, q8, q9, q10, q11, q12, q17⟩ := h.2.2.1.1.2.1
      exact q17 k
    refine ⟨?_, ?_⟩
    · show (!decide (M (4 + k) 0 = 0)) = !decide (N 17 k = 0)
      rw [hd]
    · unfold cn_leave nm_leave
      dsimp only
      rw [hd]
      by_cases h0 : N 17 k = 0
      · rw [if_pos h0, if_pos h0]; exact h
      · rw [if_neg h0, if_neg h0]
        have h1 := (mt_S (mt_g h hk (show N 17 k - 1 ≤ 200 by omega)) hk).1
        rw [cs_R_cg (N := N) (sp_u_f N k _ (by decide)) (sp_u_f N k _ (by decide))] at h1
        exact h1
theorem mt_enter (h : cl_R M X F G N O Z B) {g : Option Nat} (hg : ∀ k, g = some k → k < 4) : cm_enter M g = am_enter N g ∧ cl_R (cn_enter M g) X F G (nm_enter N g) O Z B := by
  cases g with
  | none => exact ⟨rfl, h⟩
  | some k =>
    have hk := hg k rfl
    have hd := (h.2.1.2.2.2 k hk).1
    refine ⟨?_, ?_⟩
    · show decide (M (4 + k) 0 < 200) = decide (N 17 k < 200)
      rw [hd]
    · unfold cn_enter nm_enter
      dsimp only
      rw [hd]
      by_cases h0 : N 17 k < 200
      · rw [if_pos h0, if_pos h0]; exact mt_g h hk (by omega)
      · rw [if_neg h0, if_neg h0]; exact h
theorem mt_cancel2 (h : cl_R M X F G N O Z B) {o : Option Nat} (ho : ∀ k, o = some k → k < N 6 0) : cm_cancel M X o = am_cancel N B o ∧ cl_R M (cx_cancel M X o) F G N O Z (bm_cancel N B o) := by
  cases o with
  | none => exact ⟨rfl, h⟩
  | some a =>
    have ha := ho a rfl
    have hd := h.2.1.2.2.1 a ha
    refine ⟨?_, ?_⟩
    · show (!X (20 + a) 4 && decide (M (20 + a) 3 < 3)) = (decide (N 8 a ≤ 2) && !B 15 a)
      rw [hd.1, hd.2.1, Bool.and_comm]
      rw [show decide (N 8 a < 3) = decide (N 8 a ≤ 2) from decide_eq_decide.mpr (by omega)]
    · unfold cx_cancel bm_cancel
      dsimp only
      rw [hd.1, hd.2.1]
      by_cases h1 : B 15 a = true
      · rw [if_pos h1, if_pos h1]
        by_cases h2 : N 8 a ≤ 2
        · rw [if_pos h2]; exact h
        · rw [if_neg h2]; exact h
      · rw [if_neg h1, if_neg h1]
        by_cases h2 : N 8 a ≤ 2
        · rw [if_pos h2, if_pos (by omega)]; exact mt_cancel h ha
        · rw [if_neg h2, if_neg (by omega)]; exact h
theorem mt_hold2 (h : cl_R M X F G N O Z B) {o : Option Nat} (ho : ∀ k, o = some k → k < N 1 0) (on : Bool) : cm_hold M o on = am_hold N o on ∧ cl_R (cn_hold M o on) X F G (nm_hold N o on) O Z B := by
  cases o with
  | none => exact ⟨rfl, h⟩
  | some a =>
    have ha := ho a rfl
    have hd := (h.2.1.2.1 a ha).2.1
    have h100 : N 4 a ≤ 100 := h.2.2.1.1.2.1.2.2.2.2.1 a
    unfold cm_hold am_hold cn_hold nm_hold
    dsimp only
    rw [hd]
    by_cases h3 : a < 3
    · rw [if_pos h3, if_pos h3, if_pos h3, if_pos h3]; exact ⟨rfl, h⟩
    · rw [if_neg h3, if_neg h3, if_neg h3, if_neg h3]
      cases on with
      | true =>
        rw [if_pos rfl, if_pos rfl, if_pos rfl, if_pos rfl]
        by_cases h4 : N 4 a = 100
        · rw [if_neg (by omega), if_pos h4, if_neg (by omega), if_pos h4]; exact ⟨rfl, h⟩
        · rw [if_pos (by omega), if_neg h4, if_pos (by omega), if_neg h4]; exact ⟨rfl, mt_hold h (by omega) ha (by omega)⟩
      | false =>
        rw [if_neg Bool.false_ne_true, if_neg Bool.false_ne_true, if_neg Bool.false_ne_true, if_neg Bool.false_ne_true]
        refine ⟨rfl, ?_⟩
        by_cases h4 : N 4 a = 0
        · rw [if_pos h4, if_pos h4]; exact h
        · rw [if_neg h4, if_neg h4]; exact mt_hold h (by omega) ha (by omega)
theorem mt_retarget2 (h : cl_R M X F G N O Z B) {o p : Option Nat} (ho : ∀ k, o = some k → k < N 1 0) (hp : ∀ k, p = some k → k < N 1 0) : cm_retarget M N o p = am_retarget N o p ∧ cl_R M X (cf_retarget M F N o p) G (nm_retarget N o p) O Z B := by
  cases o with
  | none => exact ⟨rfl, h⟩
  | some a =>
    have ha := ho a rfl
    have hd := (h.2.1.2.1 a ha).2.2.2.1
    unfold cm_retarget am_retarget cf_retarget nm_retarget
    dsimp only
    by_cases h3 : a < 3
    · rw [if_pos h3, if_pos h3, if_pos h3, if_pos h3]; exact ⟨rfl, h⟩
    · rw [if_neg h3, if_neg h3, if_neg h3, if_neg h3]
      cases p with
      | none => exact ⟨rfl, h⟩
      | some b =>
        have hb := hp b rfl
        dsimp only
        rw [hd]
        refine ⟨rfl, ?_⟩
        by_cases h4 : sp_l N b a = true
        · rw [if_pos h4, if_pos h4]; exact h
        · rw [if_neg h4, if_neg h4]
          by_cases h5 : 0 < sp_p N a
          · rw [if_pos h5, if_pos h5]; exact h
          · rw [if_neg h5, if_neg h5]
            exact mt_retarget h (by omega) ha hb ((Bool.not_eq_true _).mp h4) (by omega)
/-- a new queue -/
def sp_nq (N : sp_N) (a b : Nat) : sp_N := sp_u (sp_u (sp_u N 2 (N 1 0) a) 3 (N 1 0) b) 1 0 (N 1 0 + 1)
theorem sp_nq_e (N : sp_N) (a b : Nat) {f : Nat} (h1 : f ≠ 1) (h2 : f ≠ 2) (h3 : f ≠ 3) : sp_nq N a b f = N f := by
  unfold sp_nq
  rw [sp_u_f _ _ _ h1, sp_u_f _ _ _ h3, sp_u_f _ _ _ h2]
theorem sp_nq_1 (N : sp_N) (a b : Nat) : sp_nq N a b 1 0 = N 1 0 + 1 := sp_u_self ..
theorem sp_nq_2 (N : sp_N) (a b j : Nat) : sp_nq N a b 2 j = if j = N 1 0 then a else N 2 j := by
  unfold sp_nq
  rw [sp_u_n _ _ (Or.inl (by decide)), sp_u_n _ _ (Or.inl (by decide)), sp_u_app]
  by_cases h : j = N 1 0
  · rw [if_pos ⟨rfl, h⟩, if_pos h]
  · rw [if_neg (fun z => h z.2), if_neg h]
theorem sp_nq_3 (N : sp_N) (a b j : Nat) : sp_nq N a b 3 j = if j = N 1 0 then b else N 3 j := by
  unfold sp_nq
  rw [sp_u_n _ _ (Or.inl (by decide)), sp_u_app]
  by_cases h : j = N 1 0
  · rw [if_pos ⟨rfl, h⟩, if_pos h]
  · rw [if_neg (fun z => h z.2), if_neg h, sp_u_n _ _ (Or.inl (by decide))]
theorem sp_nq_Tr (hT : sp_Tr N) (h12 : N 1 0 < 12) {a : Nat} (b : Nat) (ha : a < N 1 0) : sp_Tr (sp_nq N a b) := by
  obtain ⟨h3, _, rk, hrk⟩ := hT
  refine ⟨by rw [sp_nq_1]; omega, by rw [sp_nq_1]; omega, fun j => if j = N 1 0 then rk a + 1 else rk j, fun j hj3 hj => ?_⟩
  rw [sp_nq_1] at hj ⊢
  rw [sp_nq_2]
  dsimp only
  by_cases hjn : j = N 1 0
  · rw [if_pos hjn, if_pos hjn, if_neg (by omega)]
    exact ⟨by omega, by omega⟩
  · have h1 := hrk j hj3 (by omega)
    rw [if_neg hjn, if_neg hjn, if_neg (by omega)]
    exact ⟨by omega, h1.2⟩
theorem sp_nq_l (hT : sp_Tr N) {a b x : Nat} (hT' : sp_Tr (sp_nq N a b)) : ∀ y, y < N 1 0 → sp_l (sp_nq N a b) y x = sp_l N y x := by
  refine sp_ind hT (P := fun y => sp_l (sp_nq N a b) y x = sp_l N y x) (fun y hy => ?_) (fun y h3 hy ih => ?_)
  · have h3 := hT.1
    rw [sp_l_eq hT (by omega), sp_l_eq hT' (by rw [sp_nq_1]; omega), if_pos hy, if_pos hy]
  · rw [sp_l_eq hT hy, sp_l_eq hT' (by rw [sp_nq_1]; omega), sp_nq_2, if_neg (show ¬ y = N 1 0 by omega), ih]
theorem mt_nq (h : cl_R M X F G N O Z B) (h12 : N 1 0 < 12) {a b : Nat} (ha : a < N 1 0) (hb1 : 1 ≤ b) (hb : b ≤ 8) : cl_R (sp_u (cs_qM M (N 1 0) b) 0 4 (N 1 0 + 1)) (cs_qX X (N 1 0)) (sp_u (cs_qF F (N 1 0) a) 1 (N 1 0) (some (8 + N 1 0))) (cs_qG G (N 1 0)) (sp_nq N a b) O Z B := by
  obtain ⟨hS, hD, hV, hB⟩ := h
  have hT := cl_tr hS
  have h3q := hT.1
  have hT' := sp_nq_Tr hT h12 b ha
  have hl := fun x => sp_nq_l hT (x := x) hT'
  have e : ∀ f, f ≠ 1 → f ≠ 2 → f ≠ 3 → sp_nq N a b f = N f := fun f x y z => sp_nq_e N a b x y z
  have e6 := e 6 (by decide) (by decide) (by decide)
  have e7 := e 7 (by decide) (by decide) (by decide)
  have e8 := e 8 (by decide) (by decide) (by decide)
  have e12 := e 12 (by decide) (by decide) (by decide)
  have e1 := sp_nq_1 N a b
  have hpp : ∀ x, sp_p (sp_nq N a b) x = sp_p N x := by
    intro x
    unfold sp_p
    rw [e6, e7]
    refine sp_c_congr (fun t ht => ?_)
    rw [sp_v_cg e8, hl x _ (cl_hl hS ht)]
  have hpn : sp_p N (N 1 0) = 0 := by
    refine sp_c_0.mpr (fun t ht => ?_)
    cases hq : sp_l N (N 7 t) (N 1 0) with
    | false => exact Bool.and_false _
    | true => exact absurd (sp_l_lt hT _ (cl_hl hS ht) hq) (Nat.lt_irrefl _)
  have mo : ∀ k f, k ≠ 8 + N 1 0 → ¬ (k = 0 ∧ f = 4) → sp_u (cs_qM M (N 1 0) b) 0 4 (N 1 0 + 1) k f = M k f := fun k f hk hf => by
    rw [sp_u_app, if_neg hf, cs_qM_ne _ _ _ hk]
  have mn : ∀ f, sp_u (cs_qM M (N 1 0) b) 0 4 (N 1 0 + 1) (8 + N 1 0) f = if f = 0 then N 1 0 else if f = 1 then b else 0 := fun f => by
    rw [sp_u_app, if_neg (by omega), cs_qM, va_up_self]
  have fo : ∀ k f, k ≠ 8 + N 1 0 → ¬ (k = 1 ∧ f = N 1 0) → sp_u (cs_qF F (N 1 0) a) 1 (N 1 0) (some (8 + N 1 0)) k f = F k f := fun k f hk hf => by
    rw [sp_u_app, if_neg hf, cs_qF_ne _ _ _ hk]
  have fn : ∀ f, sp_u (cs_qF F (N 1 0) a) 1 (N 1 0) (some (8 + N 1 0)) (8 + N 1 0) f = if f = 2 then some (8 + a) else none := fun f => by
    rw [sp_u_app, if_neg (by omega), cs_qF, va_up_self]
  have xo : ∀ k f, k ≠ 8 + N 1 0 → cs_qX X (N 1 0) k f = X k f := fun k f hk => by rw [cs_qX, va_up_ne _ _ hk]
  have go : ∀ k f, k ≠ 8 + N 1 0 → cs_qG G (N 1 0) k f = G k f := fun k f hk => by rw [cs_qG, va_up_ne _ _ hk]
  refine ⟨?_, ?_, ?_, ?_⟩
  · obtain ⟨⟨a1, a2, a3, a4, a5⟩, b1, c1, d1, d2, d3, d4, d5, d6, d7⟩ := hS
    refine ⟨⟨hT', by rw [e6]; exact a2, by rw [e1, sp_u_self], by rw [mo _ _ (by omega) (by omega), e6]; exact a4, ?_⟩, fun j hj => ?_, fun t ht => ?_, ?_, ?_, ?_, ?_, ?_, ?_, ?_⟩
    · rw [fo _ _ (by omega) (by omega), fo _ _ (by omega) (by omega), fo _ _ (by omega) (by omega)]; exact a5
    · rw [e1] at hj
      rw [sp_nq_2]
      by_cases hjn : j = N 1 0
      · rw [if_pos hjn, if_neg (by omega), hjn, sp_u_self, mn, fn]
        exact ⟨rfl, rfl, rfl⟩
      · rw [if_neg hjn, fo _ _ (by omega) (by omega), mo _ _ (by omega) (by omega), fo _ _ (by omega) (by omega)]
        exact b1 j (by omega)
    · rw [e6] at ht
      rw [e7, e1, fo _ _ (by omega) (by omega), mo _ _ (by omega) (by omega), fo _ _ (by omega) (by omega), fo _ _ (by omega) (by omega), fo _ _ (by omega) (by omega), xo _ _ (by omega)]
      obtain ⟨p1, p2, p3, p4⟩ := c1 t ht
      exact ⟨p1, p2, by omega, p4⟩
    · rw [e6]; exact d1
    · rw [e6]; exact d2
    · intro g hg
      rw [fo _ _ (by omega) (by omega)]
      exact d3 g hg
    · intro j k hj hk
      rw [e1] at hj
      rw [e6]
      by_cases hjn : j = N 1 0
      · rw [hjn, fn] at hk; cases hk
      · rw [fo _ _ (by omega) (by omega)] at hk
        exact d4 j k (by omega) hk
    · intro j k hj hk
      rw [e1] at hj
      rw [e6]
      by_cases hjn : j = N 1 0
      · rw [hjn, fn] at hk; cases hk
      · rw [fo _ _ (by omega) (by omega)] at hk
        exact d5 j k (by omega) hk
    · intro t k ht hk
      rw [e6] at ht ⊢
      rw [fo _ _ (by omega) (by omega)] at hk
      exact d6 t k ht hk
    · intro t k ht hk
      rw [e6] at ht
      rw [fo _ _ (by omega) (by omega)] at hk
      exact d7 t k ht hk
  · obtain ⟨⟨a1, a2, a3, a4⟩, b1, c, d⟩ := hD
    refine ⟨⟨?_, ?_, ?_, ?_⟩, fun j hj => ?_, fun t ht => ?_, fun g hg => ?_⟩
    · rw [mo _ _ (by omega) (by omega), e 0 (by decide) (by decide) (by decide)]; exact a1
    · rw [mo _ _ (by omega) (by omega), sp_w_cg e6 e8]; exact a2
    · rw [mo _ _ (by omega) (by omega), e 16 (by decide) (by decide) (by decide)]; exact a3
    · rw [go _ _ (by omega)]; exact a4
    · rw [e1] at hj
      rw [sp_nq_3, e 4 (by decide) (by decide) (by decide), e 5 (by decide) (by decide) (by decide), hpp, sp_q_cg e6 e7 e8, sp_b_cg e6 e7 e8]
      by_cases hjn : j = N 1 0
      · have h45 := hV.2.2.1 (N 1 0) (Nat.le_refl _)
        rw [if_pos hjn, hjn, mn, mn, mn, mn, mn, hpn, h45.1, h45.2]
        refine ⟨rfl, rfl, ?_, rfl, rfl, ?_, [], ?_⟩
        · symm
          refine sp_c_0.mpr (fun t ht => ?_)
          have h1 := cl_hl hS ht
          rw [decide_eq_false (show ¬ N 7 t = N 1 0 by omega), Bool.and_false]
        · rw [cs_qX, va_up_self]
          symm
          refine sp_a_f.mpr (fun t ht => ?_)
          have h1 := cl_hl hS ht
          rw [decide_eq_false (show ¬ N 7 t = N 1 0 by omega), Bool.and_false]
        · refine ⟨fun t => ⟨fun z => (by cases z), fun z => ?_⟩, List.Pairwise.nil, fn 4, fn 5, trivial⟩
          rw [e6, e7] at z
          have h1 := cl_hl hS z.1
          omega
      · obtain ⟨q1, q2, q3, q4, q5, q6, l, hl⟩ := b1 j (by omega)
        rw [if_neg hjn, mo _ _ (by omega) (by omega), mo _ _ (by omega) (by omega), mo _ _ (by omega) (by omega), mo _ _ (by omega) (by omega), mo _ _ (by omega) (by omega), xo _ _ (by omega)]
        refine ⟨q1, q2, q3, q4, q5, q6, l, ?_⟩
        obtain ⟨l1, l2, l3, l4, l5⟩ := cl_L_cg (N' := sp_nq N a b) hl e6 e7 e8 e12
        exact ⟨l1, l2, by rw [fo _ _ (by omega) (by omega)]; exact l3, by rw [fo _ _ (by omega) (by omega)]; exact l4, cl_K_cg (fun t _ => fo _ _ (by omega) (by omega)) l5⟩
    · rw [e6] at ht
      rw [e8, e12, mo _ _ (by omega) (by omega), mo _ _ (by omega) (by omega), xo _ _ (by omega), fo _ _ (by omega) (by omega), fo _ _ (by omega) (by omega), go _ _ (by omega)]
      exact c t ht
    · rw [mo _ _ (by omega) (by omega), mo _ _ (by omega) (by omega), sp_om_cg e6 e8, e 17 (by decide) (by decide) (by decide)]
      exact d g hg
  · obtain ⟨⟨a1, a2, a3⟩, b1, b2, c1, c2, d1, d2, d3, d4, f1, g1, g2, k1⟩ := hV
    refine ⟨⟨hT', ?_, by rw [e 0 (by decide) (by decide) (by decide)]; exact a3⟩, ?_, ?_, ?_, ?_, ?_, ?_, ?_, ?_, ?_, ?_, ?_, k1⟩
    · obtain ⟨q0, q1, q2, q3, q4, q5, q6, q7, q8, q9, q10, q11, q12, q17⟩ := a2
      refine ⟨by rw [e 0 (by decide) (by decide) (by decide)]; exact q0, by rw [e1]; omega, fun j => ?_, fun j => ?_, by rw [e 4 (by decide) (by decide) (by decide)]; exact q4, by rw [e 5 (by decide) (by decide) (by decide)]; exact q5, by rw [e6]; exact q6, by rw [e7]; exact q7, by rw [e8]; exact q8, q9, q10, q11, by rw [e12]; exact q12, by rw [e 17 (by decide) (by decide) (by decide)]; exact q17⟩
      · rw [sp_nq_2]
        split
        · omega
        · exact q2 j
      · rw [sp_nq_3]
        split
        · exact hb
        · exact q3 j
    · intro j hj
      rw [e 4 (by decide) (by decide) (by decide), sp_nq_3, if_neg (by omega)]
      exact b1 j hj
    · intro j hj
      rw [e1] at hj
      rw [e 4 (by decide) (by decide) (by decide), e 5 (by decide) (by decide) (by decide)]
      exact b2 j (by omega)
    · intro t ht
      rw [e6] at ht
      rw [e7, e1]
      obtain ⟨p1, p2⟩ := c1 t ht
      exact ⟨by omega, p2⟩
    · rw [e6]; exact c2
    · rw [e6, e8, e12, e 16 (by decide) (by decide) (by decide)]; exact d1
    · rw [e6, e8, e 16 (by decide) (by decide) (by decide)]; exact d2
    · rw [e6, e8, e12]; exact d3
    · intro t u ht hu hv hb hw h7
      rw [e6] at ht hu
      rw [sp_v_cg e8] at hv hw
      rw [e7] at h7
      exact d4 t u ht hu hv hb hw h7
    · intro j hj
      rw [e1] at hj
      rw [hpp, e 5 (by decide) (by decide) (by decide)]
      by_cases hjn : j = N 1 0
      · rw [hjn, hpn]; exact Nat.zero_le _
      · exact f1 j (by omega)
    · rw [e6, e8]; exact g1
    · rw [e6, e8]; exact g2
  · refine cl_B_u (fun k f => ?_) (by omega)
    by_cases hk : k = 8 + N 1 0
    · rw [hk, cs_qM, va_up_self]
      split
      · omega
      · split
        · omega
        · decide
    · rw [cs_qM_ne _ _ _ hk]
      exact hB k f
end MQ
