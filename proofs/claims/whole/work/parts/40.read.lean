/-! Part 40: the readers agree. -/
section MR
variable {M : sp_N} {X : sp_B} {F : sp_O} {G : sp_Z} {N : sp_N} {O : sp_O} {Z : sp_Z} {B : sp_B}
theorem mr_f (hD : cl_D M X F G N O Z B) {j : Nat} (hj : j < N 1 0) : F (8 + j) 4 = (sp_o N j (N 6 0)).map (fun t => 20 + t) := by
  obtain ⟨_, _, _, _, _, _, l, hl⟩ := hD.2.1 j hj
  cases l with
  | nil =>
    have h0 : sp_o N j (N 6 0) = none := sp_o_none.mpr (fun t ht hh => by
      have h1 := (hl.1 t).mpr ⟨ht, hh.1, hh.2⟩
      cases h1)
    rw [h0, hl.2.2.1]
    rfl
  | cons t r =>
    have ht := (hl.1 t).mp (List.mem_cons_self ..)
    have h0 : sp_o N j (N 6 0) = some t := sp_o_is ht.1 ht.2.1 ht.2.2 (fun u hu h8 h7 hne => by
      have hm := (hl.1 u).mpr ⟨hu, h8, h7⟩
      rcases List.mem_cons.mp hm with h | h
      · exact absurd h hne
      · exact (List.pairwise_cons.mp hl.2.1).1 u h)
    rw [h0, hl.2.2.1]
    rfl
theorem mr_cf (hD : cl_D M X F G N O Z B) {j : Nat} (hj : j < N 1 0) : cs_f F j = sp_o N j (N 6 0) := by
  unfold cs_f
  rw [mr_f hD hj]
  cases sp_o N j (N 6 0) with
  | none => rfl
  | some t =>
    show some (20 + t - 20) = some t
    rw [Nat.add_sub_cancel_left]
theorem mr_cl (hS : cl_S M X F N O B) (hD : cl_D M X F G N O Z B) {j : Nat} (hj : j < N 1 0) : cs_cl X F j = match sp_o N j (N 6 0) with
    | none => false
    | some f => B 14 f := by
  unfold cs_cl
  rw [mr_f hD hj]
  cases ho : sp_o N j (N 6 0) with
  | none => rfl
  | some t => exact cl_x hS (sp_o_some ho).1
theorem mr_no (hS : cl_S M X F N O B) (hD : cl_D M X F G N O Z B) (hV : sp_V N O Z B) (t : Nat) {x : Nat} (hx : x < N 1 0) : cs_no M X F (N 7 t) x = !sp_t N B x t := by
  obtain ⟨h1, h3, h6, h7, h8, h9, _⟩ := hD.2.1 x hx
  unfold cs_no cs_rm sp_t sp_ff
  rw [h1, h3, h7, h9, mr_cl hS hD hx]
  by_cases h : x < 3
  · rw [(hV.2.1 x h).1, if_neg (by omega)]
    by_cases hb : sp_b N B x = true
    · simp [hb, h]
    · by_cases hq : x = N 7 t
      · rw [if_pos hq, decide_eq_true hq, decide_eq_true h, if_neg hb, (Bool.not_eq_true _).mp hb]
        rfl
      · simp only [hb, h, hq, if_false]
        cases sp_o N x (N 6 0) <;> simp
  · by_cases hc : 3 ≤ x ∧ (0 < N 4 x ∨ N 3 x ≤ sp_p N x)
    · rw [if_pos hc]
      rcases hc.2 with h4 | h4
      · simp [h4]
      · simp [h, Nat.not_lt.mpr h4]
    · rw [if_neg hc]
      have h4 : ¬ 0 < N 4 x := fun z => hc ⟨by omega, Or.inl z⟩
      have h5 : sp_p N x < N 3 x := Nat.lt_of_not_le (fun z => hc ⟨by omega, Or.inr z⟩)
      by_cases hb : sp_b N B x = true
      · simp [hb]
      · by_cases hq : x = N 7 t
        · simp [hb, h4, h5, hq.symm]
        · simp only [hb, h, hq, h4, h5, if_false]
          cases sp_o N x (N 6 0) <;> simp
theorem sp_a_congr {P Q : Nat → Bool} {n : Nat} (h : ∀ t, t < n → P t = Q t) : sp_a P n = sp_a Q n := by
  rw [Bool.eq_iff_iff, sp_a_iff, sp_a_iff]
  constructor
  · rintro ⟨t, ht, hp⟩
    exact ⟨t, ht, by rw [← h t ht]; exact hp⟩
  · rintro ⟨t, ht, hp⟩
    exact ⟨t, ht, by rw [h t ht]; exact hp⟩
theorem mr_ms (hS : cl_S M X F N O B) (hD : cl_D M X F G N O Z B) (hV : sp_V N O Z B) {t : Nat} (ht : t < N 6 0) (h8 : N 8 t = 2) (ho : sp_o N (N 7 t) (N 6 0) = some t) : cs_ms M X F N t = sp_m N O B t := by
  have hq := (hD.2.1 (N 7 t) (cl_hl hS ht)).2.2.2.1
  have hc : decide (F (20 + t) 5 = none) = decide (O 9 t = none) := by
    rw [(hS.2.2.1 t ht).2.2.2.2.2.1]
    cases O 9 t <;> simp
  unfold cs_ms cs_in sp_m
  have hn : ¬ (¬ N 8 t = 2 ∨ ¬ sp_o N (N 7 t) (N 6 0) = some t) := by rw [h8, ho]; simp
  rw [if_neg hn, cl_x hS ht, hq, hc, (hD.2.2.1 t ht).2.1, hD.1.2.1, hD.1.1, sp_a_congr (fun x hx => by rw [mr_no hS hD hV t hx])]
  by_cases hb : B 14 t = true ∧ 0 < sp_p N (N 7 t)
  · rw [if_pos hb, if_pos hb]; rfl
  · rw [if_neg hb, if_neg hb]
    by_cases h5 : B 15 t = false ∧ O 9 t = none ∧ N 0 0 ≤ sp_w N O
    · rw [if_pos h5, h5.1, decide_eq_true h5.2.1, decide_eq_false (Nat.not_lt.mpr h5.2.2)]
      simp
    · rw [if_neg h5]
      have h6 : (B 15 t || !decide (O 9 t = none) || decide (sp_w N O < N 0 0)) = true := by
        cases hb5 : B 15 t with
        | true => rfl
        | false =>
          by_cases h9 : O 9 t = none
          · have h10 : sp_w N O < N 0 0 := Nat.lt_of_not_le (fun z => h5 ⟨hb5, h9, z⟩)
            simp [h10]
          · simp [h9]
      rw [h6, Bool.and_true]
theorem sp_m_1 {t : Nat} (h : sp_m N O B t = true) : N 8 t = 2 ∧ sp_o N (N 7 t) (N 6 0) = some t := by
  unfold sp_m at h
  by_cases hc : ¬ N 8 t = 2 ∨ ¬ sp_o N (N 7 t) (N 6 0) = some t
  · rw [if_pos hc] at h; cases h
  · exact ⟨Classical.byContradiction (fun z => hc (Or.inl z)), Classical.byContradiction (fun z => hc (Or.inr z))⟩
theorem mr_mo (hS : cl_S M X F N O B) (hD : cl_D M X F G N O Z B) (hV : sp_V N O Z B) {j : Nat} (hj : j < N 1 0) : cs_mo M X F N (cs_f F j) = match sp_o N j (N 6 0) with
    | none => false
    | some t => sp_m N O B t := by
  rw [mr_cf hD hj]
  cases ho : sp_o N j (N 6 0) with
  | none => rfl
  | some t =>
    have h1 := sp_o_some ho
    exact mr_ms hS hD hV h1.1 h1.2.1 (by rw [h1.2.2.1]; exact ho)
theorem mr_y (hS : cl_S M X F N O B) (hD : cl_D M X F G N O Z B) (hV : sp_V N O Z B) : cs_y M X F N = sp_y N O B := by
  have key : ∀ m, m ≤ N 1 0 → sp_c (fun i => cs_mo M X F N (cs_f F i)) m = sp_c (fun t => sp_m N O B t && decide (N 7 t < m)) (N 6 0) := by
    intro m
    induction m with
    | zero =>
      intro _
      exact (sp_c_0.mpr (fun t ht => by simp)).symm
    | succ m ih =>
      intro hm
      show sp_c (fun i => cs_mo M X F N (cs_f F i)) m + (if cs_mo M X F N (cs_f F m) = true then 1 else 0) = _
      rw [ih (by omega), mr_mo hS hD hV (show m < N 1 0 by omega)]
      have other : ∀ t, t < N 6 0 → sp_o N m (N 6 0) ≠ some t → (sp_m N O B t && decide (N 7 t < m)) = (sp_m N O B t && decide (N 7 t < m + 1)) := by
        intro t ht hne
        cases hmt : sp_m N O B t with
        | false => rfl
        | true =>
          have h1 := sp_m_1 hmt
          have h2 : N 7 t ≠ m := fun z => hne (by rw [← z]; exact h1.2)
          by_cases h3 : N 7 t < m
          · simp [h3, Nat.lt_succ_of_lt h3]
          · simp [h3, show ¬ N 7 t < m + 1 by omega]
      cases ho : sp_o N m (N 6 0) with
      | none =>
        exact sp_c_congr (fun t ht => other t ht (by rw [ho]; simp))
      | some b =>
        have h1 := sp_o_some ho
        cases hmb : sp_m N O B b with
        | false =>
          show _ + (if sp_m N O B b = true then 1 else 0) = _
          rw [hmb]
          refine sp_c_congr (fun t ht => ?_)
          by_cases htb : t = b
          · rw [htb, hmb]; rfl
          · exact other t ht (by rw [ho]; exact fun z => htb (Option.some.inj z).symm)
        | true =>
          show _ + (if sp_m N O B b = true then 1 else 0) = _
          rw [hmb]
          refine (sp_c_up (a := b) (fun t ht htb => other t ht (by rw [ho]; exact fun z => htb (Option.some.inj z).symm)) h1.1 ?_ ?_).symm
          · simp [h1.2.2.1]
          · simp [hmb, h1.2.2.1]
  unfold cs_y sp_y
  rw [key _ (Nat.le_refl _)]
  refine sp_c_congr (fun t ht => ?_)
  simp [cl_hl hS ht]
theorem mr_bf (hD : cl_D M X F G N O Z B) {t u : Nat} (ht : t < N 6 0) (hu : u < N 6 0) (h8 : N 8 t = 2) (h9 : N 8 u = 2) : cs_bf M N t u = true ↔ sp_z N t u := by
  unfold cs_bf sp_z
  rw [(hD.2.2.1 t ht).2.2.2.2.1 h8, (hD.2.2.1 u hu).2.2.2.2.1 h9]
  simp
theorem mr_h1 (hS : cl_S M X F N O B) (hD : cl_D M X F G N O Z B) (hV : sp_V N O Z B) : ∀ n, n ≤ N 1 0 → (cs_h M X F N n = none → ∀ j, j < n → ∀ t, sp_o N j (N 6 0) = some t → sp_m N O B t = false) ∧ (∀ b, cs_h M X F N n = some b → b < N 6 0 ∧ sp_m N O B b = true ∧ ∀ j, j < n → ∀ t, sp_o N j (N 6 0) = some t → sp_m N O B t = true → ¬ sp_z N t b)
  | 0, _ => ⟨fun _ j hj => absurd hj (Nat.not_lt_zero _), fun b h => by cases h⟩
  | n + 1, hn => by
    obtain ⟨i1, i2⟩ := mr_h1 hS hD hV n (by omega)
    have hc : cs_h M X F N (n + 1) = cs_g M X F N (cs_h M X F N n) (sp_o N n (N 6 0)) := by
      show cs_g M X F N (cs_h M X F N n) (cs_f F n) = _
      rw [mr_cf hD (by omega)]
    rw [hc]
    cases ho : sp_o N n (N 6 0) with
    | none =>
      refine ⟨fun h j hj t hjt => ?_, fun b h => ?_⟩
      · rcases Nat.lt_succ_iff_lt_or_eq.mp hj with h1 | h1
        · exact i1 h j h1 t hjt
        · rw [h1, ho] at hjt; cases hjt
      · obtain ⟨a1, a2, a3⟩ := i2 b h
        refine ⟨a1, a2, fun j hj t hjt => ?_⟩
        rcases Nat.lt_succ_iff_lt_or_eq.mp hj with h1 | h1
        · exact a3 j h1 t hjt
        · rw [h1, ho] at hjt; cases hjt
    | some u =>
      have h1 := sp_o_some ho
      have hms : cs_ms M X F N u = sp_m N O B u := mr_ms hS hD hV h1.1 h1.2.1 (by rw [h1.2.2.1]; exact ho)
      by_cases hcc : cs_ms M X F N u = true ∧ cs_e M N (cs_h M X F N n) u = true
      · have e1 : cs_g M X F N (cs_h M X F N n) (some u) = some u := if_pos hcc
        rw [e1]
        refine ⟨fun h => (by cases h), fun b h => ?_⟩
        cases h
        refine ⟨h1.1, by rw [← hms]; exact hcc.1, fun j hj t hjt hmt hz => ?_⟩
        rcases Nat.lt_succ_iff_lt_or_eq.mp hj with h2 | h2
        · cases hb : cs_h M X F N n with
          | none =>
            have h3 := i1 hb j h2 t hjt
            rw [hmt] at h3
            cases h3
          | some b =>
            have h3 := i2 b hb
            have h4 := hcc.2
            rw [hb] at h4
            have h5 := (mr_bf hD h1.1 h3.1 h1.2.1 (sp_m_1 h3.2.1).1).mp h4
            apply h3.2.2 j h2 t hjt hmt
            unfold sp_z at hz h5 ⊢
            omega
        · rw [h2, ho] at hjt
          cases hjt
          unfold sp_z at hz
          omega
      · have e1 : cs_g M X F N (cs_h M X F N n) (some u) = cs_h M X F N n := if_neg hcc
        rw [e1]
        refine ⟨fun h j hj t hjt => ?_, fun b h => ?_⟩
        · rcases Nat.lt_succ_iff_lt_or_eq.mp hj with h2 | h2
          · exact i1 h j h2 t hjt
          · rw [h2, ho] at hjt
            cases hjt
            rw [h, hms] at hcc
            cases hm : sp_m N O B u with
            | false => rfl
            | true => exact absurd ⟨hm, rfl⟩ hcc
        · obtain ⟨a1, a2, a3⟩ := i2 b h
          refine ⟨a1, a2, fun j hj t hjt hmt hz => ?_⟩
          rcases Nat.lt_succ_iff_lt_or_eq.mp hj with h2 | h2
          · exact a3 j h2 t hjt hmt hz
          · rw [h2, ho] at hjt
            cases hjt
            apply hcc
            rw [hms, h]
            exact ⟨hmt, (mr_bf hD h1.1 a1 h1.2.1 (sp_m_1 a2).1).mpr hz⟩
theorem mr_h (hS : cl_S M X F N O B) (hD : cl_D M X F G N O Z B) (hV : sp_V N O Z B) : cs_h M X F N (N 1 0) = sp_h N O B (N 6 0) := by
  obtain ⟨i1, i2⟩ := mr_h1 hS hD hV (N 1 0) (Nat.le_refl _)
  cases hc : cs_h M X F N (N 1 0) with
  | none =>
    symm
    refine sp_h_none.mpr (fun t ht => ?_)
    cases hm : sp_m N O B t with
    | false => rfl
    | true =>
      have h1 := i1 hc (N 7 t) (cl_hl hS ht) t (sp_m_1 hm).2
      rw [hm] at h1
      exact h1
  | some b =>
    obtain ⟨a1, a2, a3⟩ := i2 b hc
    cases hh : sp_h N O B (N 6 0) with
    | none =>
      have h1 := sp_h_none.mp hh b a1
      rw [a2] at h1
      cases h1
    | some u =>
      have h1 := sp_h_some hh
      have h2 := h1.2.2 b a1 a2
      have h3 := a3 (N 7 u) (cl_hl hS h1.1) u (sp_m_1 h1.2.1).2 h1.2.1
      have h4 : N 12 b = N 12 u := by
        unfold sp_z at h2 h3
        omega
      rw [hV.2.2.2.2.2.2.2.1 b u a1 h1.1 (sp_m_1 a2).1 (sp_m_1 h1.2.1).1 h4]
theorem mr_d (hD : cl_D M X F G N O Z B) : ∀ n, n ≤ N 6 0 → cs_d M G n = sp_d N Z n ∧ ∀ b, sp_d N Z n = some b → b < n ∧ N 8 b = 1 ∧ Z 13 b ≤ Z 18 0
  | 0, _ => ⟨rfl, fun b h => by cases h⟩
  | n + 1, hn => by
    obtain ⟨i1, i2⟩ := mr_d hD n (by omega)
    obtain ⟨b1, b2, b3, b4, _⟩ := hD.2.2.1 n (by omega)
    have hi : N 8 n = 1 → cs_i G (sp_d N Z n) n = sp_i Z (sp_d N Z n) n := by
      intro h8
      cases ho : sp_d N Z n with
      | none => rfl
      | some b =>
        obtain ⟨c1, c2, _⟩ := i2 b ho
        show decide (G (20 + n) 8 < G (20 + b) 8) = decide (Z 13 n < Z 13 b)
        rw [b4 h8, (hD.2.2.1 b (by omega)).2.2.2.1 c2]
    unfold cs_d sp_d
    rw [i1, b1, hD.1.2.2.2]
    by_cases h8 : N 8 n = 1
    · rw [hi h8, b4 h8]
      refine ⟨rfl, fun b h => ?_⟩
      split at h
      · rename_i hc
        cases h
        exact ⟨by omega, hc.1, hc.2.1⟩
      · have h1 := i2 b h
        exact ⟨by omega, h1.2⟩
    · rw [if_neg (fun z => h8 z.1), if_neg (fun z => h8 z.1)]
      refine ⟨rfl, fun b h => ?_⟩
      have h1 := i2 b h
      exact ⟨by omega, h1.2⟩
theorem mr_dk1 (hD : cl_D M X F G N O Z B) (j : Nat) (bar : Bool) : ∀ (n : Nat) (o : Option Nat), sp_a (fun x => sp_l N j x && (decide (3 ≤ x) && cs_ic N O B x (cs_sh M j bar x) n o)) (N 1 0) = sp_dl N O B j bar n o
  | 0, o => by
    show _ = false
    rw [sp_a_f]
    intro x _
    simp [cs_ic]
  | n + 1, none => by
    show _ = false
    rw [sp_a_f]
    intro x _
    simp [cs_ic]
  | n + 1, some c => by
    have ih := mr_dk1 hD j bar n (O 9 c)
    have e1 : sp_dl N O B j bar (n + 1) (some c) = (sp_x N B c j bar || sp_dl N O B j bar n (O 9 c)) := by
      show (if sp_x N B c j bar = true then true else _) = _
      cases sp_x N B c j bar <;> simp
    rw [e1, ← ih, Bool.eq_iff_iff, Bool.or_eq_true, sp_a_iff, sp_a_iff]
    unfold sp_x
    rw [sp_a_iff]
    have e2 : ∀ x, x < N 1 0 → ((sp_l N j x && (decide (3 ≤ x) && cs_ic N O B x (cs_sh M j bar x) (n + 1) (some c))) = true ↔ ((decide (3 ≤ x) && sp_l N j x && sp_l N (N 7 c) x && (decide (N 3 x = 1) || (B 14 c && decide (N 7 c = x)) || (bar && decide (x = j)))) = true ∨ (sp_l N j x && (decide (3 ≤ x) && cs_ic N O B x (cs_sh M j bar x) n (O 9 c))) = true)) := by
      intro x hx
      have e3 : cs_ic N O B x (cs_sh M j bar x) (n + 1) (some c) = (((cs_sh M j bar x || (B 14 c && decide (N 7 c = x))) && sp_l N (N 7 c) x) || cs_ic N O B x (cs_sh M j bar x) n (O 9 c)) := by
        show (if _ = true then true else _) = _
        cases ((cs_sh M j bar x || (B 14 c && decide (N 7 c = x))) && sp_l N (N 7 c) x) <;> simp
      rw [e3]
      unfold cs_sh
      rw [(hD.2.1 x hx).1]
      generalize cs_ic N O B x _ n (O 9 c) = w1
      generalize decide (N 3 x = 1) = w2
      generalize (bar && decide (x = j)) = w3
      generalize (B 14 c && decide (N 7 c = x)) = w4
      generalize sp_l N (N 7 c) x = w5
      generalize sp_l N j x = w6
      generalize decide (3 ≤ x) = w7
      revert w1 w2 w3 w4 w5 w6 w7
      decide
    constructor
    · rintro ⟨x, hx, h⟩
      rcases (e2 x hx).mp h with h | h
      · exact Or.inl ⟨x, hx, h⟩
      · exact Or.inr ⟨x, hx, h⟩
    · rintro (⟨x, hx, h⟩ | ⟨x, hx, h⟩)
      · exact ⟨x, hx, (e2 x hx).mpr (Or.inl h)⟩
      · exact ⟨x, hx, (e2 x hx).mpr (Or.inr h)⟩
theorem mr_dk (hD : cl_D M X F G N O Z B) (c j : Nat) (bar : Bool) : cs_dk M N O B c j bar = sp_dl N O B j bar 160 (some c) := mr_dk1 hD j bar 160 (some c)
theorem bd_at_if {α : Type} {q : Int32} {n : Nat} (a : α) (f : Nat → α) : (match bd_at q n with
    | none => a
    | some k => f k) = if bd_in q n = true then f q.toNatClampNeg else a := by
  unfold bd_at
  split <;> rename_i h <;> split at h <;> rename_i h2
  · cases h
  · rw [if_neg h2]
  · cases h; rw [if_pos h2]
  · cases h
theorem bd_at_lt {q : Int32} {n a : Nat} (h : bd_at q n = some a) (hn : n < 2 ^ 31) : a < n := (bd_at_some hn h).1
theorem mr_queued (hD : cl_D M X F G N O Z B) (h12 : N 1 0 ≤ 12) (q : Int32) : cs_q M (bd_at q (N 1 0)) 6 = am_queued N q := by
  have e : am_queued N q = match bd_at q (N 1 0) with
    | none => -1
    | some k => nI (sp_q N k) := (bd_at_if _ (fun k => nI (sp_q N k))).symm
  rw [e]
  cases ho : bd_at q (N 1 0) with
  | none => rfl
  | some a =>
    show nI (M (8 + a) 6) = nI (sp_q N a)
    rw [(hD.2.1 a (bd_at_lt ho (by omega))).2.2.1]
theorem mr_through (hD : cl_D M X F G N O Z B) (h12 : N 1 0 ≤ 12) (q : Int32) : cs_q M (bd_at q (N 1 0)) 7 = am_through N q := by
  have e : am_through N q = match bd_at q (N 1 0) with
    | none => -1
    | some k => nI (sp_p N k) := (bd_at_if _ (fun k => nI (sp_p N k))).symm
  rw [e]
  cases ho : bd_at q (N 1 0) with
  | none => rfl
  | some a =>
    show nI (M (8 + a) 7) = nI (sp_p N a)
    rw [(hD.2.1 a (bd_at_lt ho (by omega))).2.2.2.1]
theorem mr_peak (hD : cl_D M X F G N O Z B) (h12 : N 1 0 ≤ 12) (q : Int32) : cs_q M (bd_at q (N 1 0)) 8 = am_peak N q := by
  have e : am_peak N q = match bd_at q (N 1 0) with
    | none => -1
    | some k => nI (N 5 k) := (bd_at_if _ (fun k => nI (N 5 k))).symm
  rw [e]
  cases ho : bd_at q (N 1 0) with
  | none => rfl
  | some a =>
    show nI (M (8 + a) 8) = nI (N 5 a)
    rw [(hD.2.1 a (bd_at_lt ho (by omega))).2.2.2.2.1]
theorem mr_count (hD : cl_D M X F G N O Z B) (q : Int32) : cs_ct M (bd_at q 4) = am_count N O q := by
  have e : am_count N O q = match bd_at q 4 with
    | none => -2
    | some k => nI (sp_g N O k) := (bd_at_if _ (fun k => nI (sp_g N O k))).symm
  rw [e]
  cases ho : bd_at q 4 with
  | none => rfl
  | some a =>
    show nI (M (4 + a) 0 + M (4 + a) 1) = nI (sp_g N O a)
    have h1 := hD.2.2.2 a (bd_at_lt ho (by decide))
    rw [h1.1, h1.2]
    rfl
theorem mr_state (hD : cl_D M X F G N O Z B) (h160 : N 6 0 ≤ 160) (q : Int32) : cs_st M X (bd_at q (N 6 0)) = am_state N B q := by
  have e : am_state N B q = match bd_at q (N 6 0) with
    | none => -3
    | some k => nI (N 8 k + (if B 15 k = true then 8 else 0)) := (bd_at_if _ (fun k => nI (N 8 k + (if B 15 k = true then 8 else 0)))).symm
  rw [e]
  cases ho : bd_at q (N 6 0) with
  | none => rfl
  | some a =>
    show nI (M (20 + a) 3 + (if X (20 + a) 4 = true then 8 else 0)) = _
    have h1 := hD.2.2.1 a (bd_at_lt ho (by omega))
    rw [h1.1, h1.2.1]
end MR
