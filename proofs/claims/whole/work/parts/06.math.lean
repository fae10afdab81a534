/-! Part 06: pure mathematics of counting and of the tree of queues. -/
theorem sp_c_congr {P Q : Nat → Bool} : ∀ {n : Nat}, (∀ t, t < n → P t = Q t) → sp_c P n = sp_c Q n
  | 0, _ => rfl
  | n + 1, h => by
    unfold sp_c
    rw [sp_c_congr (fun t ht => h t (by omega)), h n (by omega)]
theorem sp_c_mono {P Q : Nat → Bool} : ∀ {n : Nat}, (∀ t, t < n → P t = true → Q t = true) → sp_c P n ≤ sp_c Q n
  | 0, _ => Nat.le_refl _
  | n + 1, h => by
    have h1 := sp_c_mono (n := n) (fun t ht => h t (by omega))
    have h2 := h n (by omega)
    unfold sp_c
    by_cases hp : P n = true
    · rw [if_pos hp, if_pos (h2 hp)]; omega
    · rw [if_neg hp]; split <;> omega
theorem sp_c_lt {P Q : Nat → Bool} {a : Nat} : ∀ {n : Nat}, (∀ t, t < n → P t = true → Q t = true) → a < n → P a = false → Q a = true → sp_c P n < sp_c Q n
  | 0, _, ha, _, _ => by omega
  | n + 1, h, ha, hp, hq => by
    unfold sp_c
    by_cases han : a = n
    · subst han
      have h1 := sp_c_mono (n := a) (P := P) (Q := Q) (fun t ht => h t (by omega))
      rw [hp, hq]
      simp
      omega
    · have h1 := sp_c_lt (n := n) (fun t ht => h t (by omega)) (by omega) hp hq
      have h2 := h n (by omega)
      by_cases hpn : P n = true
      · rw [if_pos hpn, if_pos (h2 hpn)]; omega
      · rw [if_neg hpn]; split <;> omega
/-- one place goes from no to yes -/
theorem sp_c_up {P Q : Nat → Bool} {a : Nat} : ∀ {n : Nat}, (∀ t, t < n → t ≠ a → P t = Q t) → a < n → P a = false → Q a = true → sp_c Q n = sp_c P n + 1
  | 0, _, ha, _, _ => by omega
  | n + 1, h, ha, hp, hq => by
    unfold sp_c
    by_cases han : a = n
    · subst han
      have h1 := sp_c_congr (n := a) (P := P) (Q := Q) (fun t ht => h t (by omega) (by omega))
      rw [hp, hq, h1]
      simp
    · have h1 := sp_c_up (n := n) (fun t ht => h t (by omega)) (by omega) hp hq
      rw [h1, h n (by omega) (fun q => han q.symm)]
      omega
theorem sp_c_0 {P : Nat → Bool} : ∀ {n : Nat}, sp_c P n = 0 ↔ ∀ t, t < n → P t = false
  | 0 => ⟨fun _ t ht => by omega, fun _ => rfl⟩
  | n + 1 => by
    have ih := sp_c_0 (P := P) (n := n)
    unfold sp_c
    constructor
    · intro h t ht
      by_cases hn : P n = true
      · rw [if_pos hn] at h; omega
      · by_cases htn : t = n
        · subst htn; simpa using hn
        · exact ih.mp (by rw [if_neg hn] at h; omega) t (by omega)
    · intro h
      rw [ih.mpr (fun t ht => h t (by omega)), h n (by omega)]
      rfl
theorem sp_c_pos {P : Nat → Bool} {n : Nat} : 0 < sp_c P n ↔ ∃ t, t < n ∧ P t = true := by
  constructor
  · intro h
    apply Classical.byContradiction
    intro hn
    have h2 : sp_c P n = 0 := sp_c_0.mpr (fun t ht => by
      cases hp : P t with
      | false => rfl
      | true => exact absurd ⟨t, ht, hp⟩ hn)
    omega
  · rintro ⟨t, ht, hp⟩
    apply Nat.pos_of_ne_zero
    intro h0
    have h1 := sp_c_0.mp h0 t ht
    rw [hp] at h1
    cases h1
theorem sp_c_all {P : Nat → Bool} : ∀ {n : Nat}, (∀ t, t < n → P t = true) → sp_c P n = n
  | 0, _ => rfl
  | n + 1, h => by
    unfold sp_c
    rw [sp_c_all (fun t ht => h t (by omega)), h n (by omega)]
    rfl
theorem sp_a_iff {P : Nat → Bool} : ∀ {n : Nat}, sp_a P n = true ↔ ∃ t, t < n ∧ P t = true
  | 0 => ⟨fun h => absurd h (by simp [sp_a]), fun ⟨t, ht, _⟩ => by omega⟩
  | n + 1 => by
    have ih := sp_a_iff (P := P) (n := n)
    unfold sp_a
    rw [Bool.or_eq_true, ih]
    constructor
    · rintro (⟨t, ht, hp⟩ | h)
      · exact ⟨t, by omega, hp⟩
      · exact ⟨n, by omega, h⟩
    · rintro ⟨t, ht, hp⟩
      by_cases htn : t = n
      · subst htn; exact Or.inr hp
      · exact Or.inl ⟨t, by omega, hp⟩
theorem sp_a_f {P : Nat → Bool} {n : Nat} : sp_a P n = false ↔ ∀ t, t < n → P t = false := by
  constructor
  · intro h t ht
    cases hp : P t with
    | false => rfl
    | true =>
      rw [sp_a_iff.mpr ⟨t, ht, hp⟩] at h
      cases h
  · intro h
    cases ha : sp_a P n with
    | false => rfl
    | true =>
      obtain ⟨t, ht, hp⟩ := sp_a_iff.mp ha
      rw [h t ht] at hp
      cases hp
/-- a rank that falls along the targets -/
def sp_Rk (N : sp_N) (rk : Nat → Nat) : Prop := ∀ j, 3 ≤ j → j < N 1 0 → N 2 j < N 1 0 ∧ rk (N 2 j) < rk j
def sp_Tr (N : sp_N) : Prop := 3 ≤ N 1 0 ∧ N 1 0 ≤ 12 ∧ ∃ rk : Nat → Nat, sp_Rk N rk
theorem sp_Rk_small {N : sp_N} {rk : Nat → Nat} (h : sp_Rk N rk) : ∃ r : Nat → Nat, sp_Rk N r ∧ ∀ j, j < N 1 0 → r j < N 1 0 := by
  refine ⟨fun j => sp_c (fun i => decide (rk i < rk j)) (N 1 0), fun j h3 hj => ⟨(h j h3 hj).1, ?_⟩, fun j hj => ?_⟩
  · have h1 := h j h3 hj
    refine sp_c_lt (a := N 2 j) (fun t _ ht => ?_) h1.1 (by simp) (by simpa using h1.2)
    simp only [decide_eq_true_eq] at ht ⊢
    omega
  · have h1 : sp_c (fun i => decide (rk i < rk j)) (N 1 0) < sp_c (fun _ => true) (N 1 0) := sp_c_lt (a := j) (fun _ _ _ => rfl) hj (by simp) rfl
    rw [sp_c_all (P := fun _ => true) (fun _ _ => rfl)] at h1
    exact h1
theorem sp_k_fuel {N : sp_N} {rk : Nat → Nat} (h : sp_Rk N rk) (x : Nat) : ∀ (n n' y : Nat), y < N 1 0 → rk y < n → rk y < n' → sp_k N n y x = sp_k N n' y x
  | 0, _, _, _, h1, _ => by omega
  | _ + 1, 0, _, _, _, h2 => by omega
  | n + 1, n' + 1, y, hy, h1, h2 => by
    unfold sp_k
    by_cases hyx : y = x
    · rw [if_pos hyx, if_pos hyx]
    · rw [if_neg hyx, if_neg hyx]
      by_cases h3 : y < 3
      · rw [if_pos h3, if_pos h3]
      · rw [if_neg h3, if_neg h3]
        have h4 := h y (by omega) hy
        exact sp_k_fuel h x n n' (N 2 y) h4.1 (by omega) (by omega)
theorem sp_l_eq {N : sp_N} (hT : sp_Tr N) {y : Nat} (hy : y < N 1 0) (x : Nat) : sp_l N y x = if y = x then true else if y < 3 then false else sp_l N (N 2 y) x := by
  obtain ⟨h3, h12, rk, hrk⟩ := hT
  obtain ⟨r, hr, hb⟩ := sp_Rk_small hrk
  have hby := hb y hy
  show sp_k N 12 y x = _
  unfold sp_k
  by_cases hyx : y = x
  · rw [if_pos hyx, if_pos hyx]
  · rw [if_neg hyx, if_neg hyx]
    by_cases h4 : y < 3
    · rw [if_pos h4, if_pos h4]
    · rw [if_neg h4, if_neg h4]
      have h5 := hr y (by omega) hy
      exact sp_k_fuel hr x 11 12 (N 2 y) h5.1 (by omega) (by omega)
/-- induction along the targets -/
theorem sp_ind {N : sp_N} (hT : sp_Tr N) {P : Nat → Prop} (h0 : ∀ y, y < 3 → P y) (hs : ∀ y, 3 ≤ y → y < N 1 0 → P (N 2 y) → P y) : ∀ y, y < N 1 0 → P y := by
  obtain ⟨h3, h12, rk, hrk⟩ := hT
  have key : ∀ n y, rk y < n → y < N 1 0 → P y := by
    intro n
    induction n with
    | zero => intro y h; omega
    | succ n ih =>
      intro y h hy
      by_cases hy3 : y < 3
      · exact h0 y hy3
      · have h1 := hrk y (by omega) hy
        exact hs y (by omega) hy (ih _ (by omega) h1.1)
  exact fun y hy => key _ y (Nat.lt_succ_self _) hy
theorem sp_l_self (N : sp_N) (y : Nat) : sp_l N y y = true := by
  show sp_k N 12 y y = true
  unfold sp_k
  rw [if_pos rfl]
theorem sp_l_lt {N : sp_N} (hT : sp_Tr N) {x : Nat} : ∀ y, y < N 1 0 → sp_l N y x = true → x < N 1 0 := by
  refine sp_ind hT (fun y hy h => ?_) (fun y h3 hy ih h => ?_)
  · have h4 : 3 ≤ N 1 0 := hT.1
    rw [sp_l_eq hT (by omega)] at h
    by_cases hyx : y = x
    · omega
    · rw [if_neg hyx, if_pos hy] at h; cases h
  · rw [sp_l_eq hT hy] at h
    by_cases hyx : y = x
    · omega
    · rw [if_neg hyx, if_neg (by omega)] at h
      exact ih h
theorem sp_l_trans {N : sp_N} (hT : sp_Tr N) {x z : Nat} (hxz : sp_l N x z = true) : ∀ y, y < N 1 0 → sp_l N y x = true → sp_l N y z = true := by
  refine sp_ind hT (fun y hy h => ?_) (fun y h3 hy ih h => ?_)
  · have h4 : 3 ≤ N 1 0 := hT.1
    rw [sp_l_eq hT (by omega)] at h
    by_cases hyx : y = x
    · subst hyx; exact hxz
    · rw [if_neg hyx, if_pos hy] at h; cases h
  · rw [sp_l_eq hT hy] at h
    by_cases hyx : y = x
    · subst hyx; exact hxz
    · rw [if_neg hyx, if_neg (by omega)] at h
      rw [sp_l_eq hT hy]
      by_cases hyz : y = z
      · rw [if_pos hyz]
      · rw [if_neg hyz, if_neg (by omega)]
        exact ih h
/-- whom y leads to has a lower rank, or is y -/
theorem sp_l_rk {N : sp_N} (hT : sp_Tr N) {rk : Nat → Nat} (hrk : sp_Rk N rk) {x : Nat} : ∀ y, y < N 1 0 → sp_l N y x = true → y = x ∨ rk x < rk y := by
  refine sp_ind hT (fun y hy h => ?_) (fun y h3 hy ih h => ?_)
  · have h4 : 3 ≤ N 1 0 := hT.1
    rw [sp_l_eq hT (by omega)] at h
    by_cases hyx : y = x
    · exact Or.inl hyx
    · rw [if_neg hyx, if_pos hy] at h; cases h
  · rw [sp_l_eq hT hy] at h
    by_cases hyx : y = x
    · exact Or.inl hyx
    · rw [if_neg hyx, if_neg (by omega)] at h
      have h1 := hrk y h3 hy
      rcases ih h with h2 | h2
      · exact Or.inr (by rw [← h2]; exact h1.2)
      · exact Or.inr (by omega)
/-- y isn't among those that its target leads to -/
theorem sp_l_no {N : sp_N} (hT : sp_Tr N) {y : Nat} (h3 : 3 ≤ y) (hy : y < N 1 0) : sp_l N (N 2 y) y = false := by
  obtain ⟨rk, hrk⟩ := hT.2.2
  have h1 := hrk y h3 hy
  cases h : sp_l N (N 2 y) y with
  | false => rfl
  | true =>
    rcases sp_l_rk hT hrk _ h1.1 h with h2 | h2
    · rw [h2] at h1; omega
    · omega
theorem sp_l_anti {N : sp_N} (hT : sp_Tr N) {x y : Nat} (hx : x < N 1 0) (hy : y < N 1 0) (h1 : sp_l N x y = true) (h2 : sp_l N y x = true) : x = y := by
  obtain ⟨rk, hrk⟩ := hT.2.2
  rcases sp_l_rk hT hrk x hx h1 with h | h
  · exact h
  · rcases sp_l_rk hT hrk y hy h2 with h4 | h4
    · exact h4.symm
    · omega
/-- a tree in which a queue has got another target, which doesn't lead to it -/
theorem sp_Tr_move {N : sp_N} (hT : sp_Tr N) {q t : Nat} (h3 : 3 ≤ q) (hq : q < N 1 0) (ht : t < N 1 0) (hn : sp_l N t q = false) : sp_Tr (sp_u N 2 q t) := by
  obtain ⟨g3, g12, rk, hrk⟩ := id hT
  have e1 : sp_u N 2 q t 1 = N 1 := sp_u_f N q t (by decide)
  refine ⟨by rw [e1]; exact g3, by rw [e1]; exact g12, fun j => if sp_l N j q = true then rk j + rk t + 1 else rk j, fun j hj3 hj => ?_⟩
  rw [e1] at hj ⊢
  by_cases hjq : j = q
  · subst hjq
    rw [sp_u_self]
    refine ⟨ht, ?_⟩
    show (if sp_l N t j = true then rk t + rk t + 1 else rk t) < (if sp_l N j j = true then rk j + rk t + 1 else rk j)
    rw [hn, sp_l_self]
    simp
    omega
  · have e2 : sp_u N 2 q t 2 j = N 2 j := by rw [sp_u_app, if_neg (by omega)]
    rw [e2]
    have h1 := hrk j hj3 hj
    refine ⟨h1.1, ?_⟩
    have h2 := sp_l_eq hT hj q
    rw [if_neg hjq, if_neg (by omega)] at h2
    show (if sp_l N (N 2 j) q = true then rk (N 2 j) + rk t + 1 else rk (N 2 j)) < (if sp_l N j q = true then rk j + rk t + 1 else rk j)
    rw [h2]
    split <;> omega
