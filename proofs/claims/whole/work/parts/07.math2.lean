/-! Part 07: what the scans of the reference find. -/
theorem sp_o_none {N : sp_N} {x : Nat} : ∀ {n : Nat}, sp_o N x n = none ↔ ∀ t, t < n → ¬ (N 8 t = 2 ∧ N 7 t = x)
  | 0 => ⟨fun _ t ht => by omega, fun _ => rfl⟩
  | n + 1 => by
    have ih := sp_o_none (N := N) (x := x) (n := n)
    unfold sp_o
    by_cases hc : N 8 n = 2 ∧ N 7 n = x ∧ sp_f N (sp_o N x n) n = true
    · rw [if_pos hc]
      exact ⟨fun h => (by cases h), fun h => absurd ⟨hc.1, hc.2.1⟩ (h n (by omega))⟩
    · rw [if_neg hc, ih]
      constructor
      · intro h t ht
        by_cases htn : t = n
        · subst htn
          intro hq
          apply hc
          rw [ih.mpr h]
          exact ⟨hq.1, hq.2, rfl⟩
        · exact h t (by omega)
      · intro h t ht
        exact h t (by omega)
theorem sp_o_some {N : sp_N} {x b : Nat} : ∀ {n : Nat}, sp_o N x n = some b → b < n ∧ N 8 b = 2 ∧ N 7 b = x ∧ ∀ t, t < n → N 8 t = 2 → N 7 t = x → N 12 b ≤ N 12 t
  | 0, h => by cases h
  | n + 1, h => by
    unfold sp_o at h
    by_cases hc : N 8 n = 2 ∧ N 7 n = x ∧ sp_f N (sp_o N x n) n = true
    · rw [if_pos hc] at h
      cases h
      refine ⟨by omega, hc.1, hc.2.1, fun t ht h8 h7 => ?_⟩
      by_cases htn : t = b
      · subst htn; exact Nat.le_refl _
      · cases ho : sp_o N x b with
        | none => exact absurd ⟨h8, h7⟩ (sp_o_none.mp ho t (by omega))
        | some a =>
          have h1 := sp_o_some ho
          have h2 := hc.2.2
          rw [ho] at h2
          simp only [sp_f, decide_eq_true_eq] at h2
          have h3 := h1.2.2.2 t (by omega) h8 h7
          omega
    · rw [if_neg hc] at h
      have h1 := sp_o_some h
      refine ⟨by omega, h1.2.1, h1.2.2.1, fun t ht h8 h7 => ?_⟩
      by_cases htn : t = n
      · subst htn
        have h2 : ¬ sp_f N (sp_o N x t) t = true := fun q => hc ⟨h8, h7, q⟩
        rw [h] at h2
        simp only [sp_f, decide_eq_true_eq] at h2
        omega
      · exact h1.2.2.2 t (by omega) h8 h7
/-- with stamps that differ, the oldest is the one that is below all -/
theorem sp_o_is {N : sp_N} {x b n : Nat} (hb : b < n) (h8 : N 8 b = 2) (h7 : N 7 b = x) (hm : ∀ t, t < n → N 8 t = 2 → N 7 t = x → t ≠ b → N 12 b < N 12 t) : sp_o N x n = some b := by
  cases ho : sp_o N x n with
  | none => exact absurd ⟨h8, h7⟩ (sp_o_none.mp ho b hb)
  | some a =>
    obtain ⟨h1, h2, h3, h4⟩ := sp_o_some ho
    by_cases hab : a = b
    · rw [hab]
    · have h5 := hm a h1 h2 h3 hab
      have h6 := h4 b hb h8 h7
      omega
theorem sp_o_congr {N N' : sp_N} {x : Nat} : ∀ {n : Nat}, (∀ t, t < n → N' 8 t = N 8 t ∧ N' 7 t = N 7 t ∧ N' 12 t = N 12 t) → sp_o N' x n = sp_o N x n
  | 0, _ => rfl
  | n + 1, h => by
    have ih := sp_o_congr (N := N) (N' := N') (x := x) (n := n) (fun t ht => h t (by omega))
    unfold sp_o
    rw [ih, (h n (by omega)).1, (h n (by omega)).2.1]
    have e : sp_f N' (sp_o N x n) n = sp_f N (sp_o N x n) n := by
      cases ho : sp_o N x n with
      | none => rfl
      | some a =>
        have h1 := (sp_o_some ho).1
        simp only [sp_f]
        rw [(h n (by omega)).2.2, (h a (by omega)).2.2]
    rw [e]
/-- the chosen one: it may start, and none that may start goes before it -/
theorem sp_h_none {N : sp_N} {O : sp_O} {B : sp_B} : ∀ {n : Nat}, sp_h N O B n = none ↔ ∀ t, t < n → sp_m N O B t = false
  | 0 => ⟨fun _ t ht => by omega, fun _ => rfl⟩
  | n + 1 => by
    have ih := sp_h_none (N := N) (O := O) (B := B) (n := n)
    unfold sp_h
    by_cases hc : sp_m N O B n = true ∧ sp_e N (sp_h N O B n) n = true
    · rw [if_pos hc]
      refine ⟨fun h => (by cases h), fun h => ?_⟩
      have h1 := h n (by omega)
      rw [hc.1] at h1
      cases h1
    · rw [if_neg hc, ih]
      constructor
      · intro h t ht
        by_cases htn : t = n
        · subst htn
          cases hm : sp_m N O B t with
          | false => rfl
          | true =>
            exfalso
            apply hc
            rw [ih.mpr h]
            exact ⟨hm, rfl⟩
        · exact h t (by omega)
      · intro h t ht
        exact h t (by omega)
/-- a goes before b, by root and stamp -/
def sp_z (N : sp_N) (a b : Nat) : Prop := sp_r N (N 7 b) < sp_r N (N 7 a) ∨ (sp_r N (N 7 a) = sp_r N (N 7 b) ∧ N 12 a < N 12 b)
theorem sp_h_some {N : sp_N} {O : sp_O} {B : sp_B} {b : Nat} : ∀ {n : Nat}, sp_h N O B n = some b → b < n ∧ sp_m N O B b = true ∧ ∀ t, t < n → sp_m N O B t = true → ¬ sp_z N t b
  | 0, h => by cases h
  | n + 1, h => by
    unfold sp_h at h
    by_cases hc : sp_m N O B n = true ∧ sp_e N (sp_h N O B n) n = true
    · rw [if_pos hc] at h
      cases h
      refine ⟨by omega, hc.1, fun t ht hm hz => ?_⟩
      by_cases htn : t = b
      · subst htn
        rcases hz with h1 | h1 <;> omega
      · cases ho : sp_h N O B b with
        | none =>
          have h1 := sp_h_none.mp ho t (by omega)
          rw [hm] at h1
          cases h1
        | some a =>
          have h1 := sp_h_some ho
          have h2 := hc.2
          rw [ho] at h2
          simp only [sp_e, Bool.or_eq_true, Bool.and_eq_true, decide_eq_true_eq] at h2
          have h3 := h1.2.2 t (by omega) hm
          apply h3
          unfold sp_z at hz ⊢
          omega
    · rw [if_neg hc] at h
      have h1 := sp_h_some h
      refine ⟨by omega, h1.2.1, fun t ht hm hz => ?_⟩
      by_cases htn : t = n
      · subst htn
        have h2 : ¬ sp_e N (sp_h N O B t) t = true := fun q => hc ⟨hm, q⟩
        rw [h] at h2
        simp only [sp_e, Bool.or_eq_true, Bool.and_eq_true, decide_eq_true_eq] at h2
        unfold sp_z at hz
        omega
      · exact h1.2.2 t (by omega) hm hz
