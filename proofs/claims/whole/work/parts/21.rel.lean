/-! Part 21: how the class's maps stand to the mathematical state. -/
/-- the standing part: arrays, queues and their targets, blocks and their homes, callers, groups; where references may point -/
def cl_S (M : sp_N) (X : sp_B) (F : sp_O) (N : sp_N) (O : sp_O) (B : sp_B) : Prop :=
  (sp_Tr N ∧ N 6 0 ≤ 160 ∧ M 0 4 = N 1 0 ∧ M 0 5 = N 6 0 ∧ F 0 1 = some 1 ∧ F 0 2 = some 2 ∧ F 0 3 = some 3) ∧
  (∀ j, j < N 1 0 → F 1 j = some (8 + j) ∧ M (8 + j) 0 = j ∧ F (8 + j) 2 = (if j < 3 then none else some (8 + N 2 j))) ∧
  (∀ t, t < N 6 0 → F 2 t = some (20 + t) ∧ M (20 + t) 0 = t ∧ N 7 t < N 1 0 ∧ F (20 + t) 1 = some (8 + N 7 t) ∧ X (20 + t) 2 = B 14 t ∧ F (20 + t) 5 = (O 9 t).map (fun c => 20 + c) ∧ F (20 + t) 6 = (O 10 t).map (fun g => 4 + g)) ∧
  (∀ t c, t < N 6 0 → O 9 t = some c → c < t) ∧ (∀ t g, t < N 6 0 → O 10 t = some g → g < 4) ∧
  (∀ g, g < 4 → F 3 g = some (4 + g)) ∧
  (∀ j k, j < N 1 0 → F (8 + j) 4 = some k → ∃ t, t < N 6 0 ∧ k = 20 + t) ∧ (∀ j k, j < N 1 0 → F (8 + j) 5 = some k → ∃ t, t < N 6 0 ∧ k = 20 + t) ∧
  (∀ t k, t < N 6 0 → F (20 + t) 10 = some k → ∃ u, u < N 6 0 ∧ k = 20 + u) ∧ (∀ t k, t < N 6 0 → F (20 + t) 7 = some k → ∃ g, g < 4 ∧ k = 4 + g)
/-- a line of blocks, linked -/
def cl_K (F : sp_O) : List Nat → Prop
  | [] => True
  | [a] => F (20 + a) 10 = none
  | a :: b :: r => F (20 + a) 10 = some (20 + b) ∧ cl_K F (b :: r)
/-- the queue's line: the QUEUED blocks of that home, by stamp -/
def cl_L (F : sp_O) (N : sp_N) (j : Nat) (l : List Nat) : Prop :=
  (∀ t, t ∈ l ↔ t < N 6 0 ∧ N 8 t = 2 ∧ N 7 t = j) ∧ l.Pairwise (fun a b => N 12 a < N 12 b) ∧ F (8 + j) 4 = l.head?.map (fun t => 20 + t) ∧ F (8 + j) 5 = l.getLast?.map (fun t => 20 + t) ∧ cl_K F l
/-- how many open members -/
def sp_om (N : sp_N) (O : sp_O) (g : Nat) : Nat := sp_c (fun t => decide (O 10 t = some g) && decide (N 8 t < 5)) (N 6 0)
/-- the moving part -/
def cl_D (M : sp_N) (X : sp_B) (F : sp_O) (G : sp_Z) (N : sp_N) (O : sp_O) (Z : sp_Z) (B : sp_B) : Prop :=
  (M 0 0 = N 0 0 ∧ M 0 6 = sp_w N O ∧ M 0 7 = N 16 0 ∧ G 0 8 = Z 18 0) ∧
  (∀ j, j < N 1 0 → M (8 + j) 1 = N 3 j ∧ M (8 + j) 3 = N 4 j ∧ M (8 + j) 6 = sp_q N j ∧ M (8 + j) 7 = sp_p N j ∧ M (8 + j) 8 = N 5 j ∧ X (8 + j) 9 = sp_b N B j ∧ ∃ l, cl_L F N j l) ∧
  (∀ t, t < N 6 0 → M (20 + t) 3 = N 8 t ∧ X (20 + t) 4 = B 15 t ∧ (N 8 t = 0 → F (20 + t) 7 = (O 11 t).map (fun g => 4 + g)) ∧ (N 8 t = 1 → G (20 + t) 8 = Z 13 t) ∧ (N 8 t = 2 → M (20 + t) 9 = N 12 t) ∧ (N 8 t < 2 → F (20 + t) 10 = none)) ∧
  (∀ g, g < 4 → M (4 + g) 0 = N 17 g ∧ M (4 + g) 1 = sp_om N O g)
/-- what holds of the mathematical state alone -/
def sp_V (N : sp_N) (O : sp_O) (Z : sp_Z) (B : sp_B) : Prop :=
  (sp_Tr N ∧ sp_Bd N O ∧ 1 ≤ N 0 0) ∧
  (∀ j, j < 3 → N 4 j = 0 ∧ N 3 j = 0) ∧ (∀ j, N 1 0 ≤ j → N 4 j = 0 ∧ N 5 j = 0) ∧
  (∀ t, t < N 6 0 → N 7 t < N 1 0 ∧ (B 14 t = true → 3 ≤ N 7 t) ∧ ∀ c, O 9 t = some c → c < t) ∧
  (∀ t, N 6 0 ≤ t → B 15 t = false) ∧
  (∀ t, t < N 6 0 → 2 ≤ N 8 t → N 12 t < N 16 0) ∧ N 16 0 = sp_c (fun t => decide (2 ≤ N 8 t)) (N 6 0) ∧
  (∀ t u, t < N 6 0 → u < N 6 0 → N 8 t = 2 → N 8 u = 2 → N 12 t = N 12 u → t = u) ∧
  (∀ t u, t < N 6 0 → u < N 6 0 → sp_v N t = true → B 14 t = true → sp_v N u = true → N 7 u = N 7 t → u = t) ∧
  (∀ j, j < N 1 0 → sp_p N j ≤ N 5 j) ∧
  (∀ t c, t < N 6 0 → O 9 t = some c → N 8 t < 5 → N 8 c = 4) ∧
  (∀ t u c, t < N 6 0 → u < N 6 0 → O 9 t = some c → O 9 u = some c → N 8 t < 5 → N 8 u < 5 → t = u) ∧
  (0 ≤ Z 18 0 ∧ Z 18 0 ≤ 9223372036854775806)
/-- the keys that there are -/
def cl_k (ks : List Nat) (N : sp_N) : Prop := (∀ k, k < 8 → k ∈ ks) ∧ (∀ j, j < N 1 0 → 8 + j ∈ ks) ∧ (∀ t, t < N 6 0 → 20 + t ∈ ks)
section CLS
variable {M : sp_N} {X : sp_B} {F : sp_O} {N : sp_N} {O : sp_O} {B : sp_B}
theorem cl_tr (h : cl_S M X F N O B) : sp_Tr N := h.1.1
theorem cl_160 (h : cl_S M X F N O B) : N 6 0 ≤ 160 := h.1.2.1
theorem cl_12 (h : cl_S M X F N O B) : N 1 0 ≤ 12 := h.1.1.2.1
theorem cl_3 (h : cl_S M X F N O B) : 3 ≤ N 1 0 := h.1.1.1
theorem cl_M4 (h : cl_S M X F N O B) : M 0 4 = N 1 0 := h.1.2.2.1
theorem cl_M5 (h : cl_S M X F N O B) : M 0 5 = N 6 0 := h.1.2.2.2.1
theorem cl_F1 (h : cl_S M X F N O B) : F 0 1 = some 1 := h.1.2.2.2.2.1
theorem cl_F2 (h : cl_S M X F N O B) : F 0 2 = some 2 := h.1.2.2.2.2.2.1
theorem cl_F3 (h : cl_S M X F N O B) : F 0 3 = some 3 := h.1.2.2.2.2.2.2
theorem cl_q (h : cl_S M X F N O B) {j : Nat} (hj : j < N 1 0) : F 1 j = some (8 + j) := (h.2.1 j hj).1
theorem cl_qn (h : cl_S M X F N O B) {j : Nat} (hj : j < N 1 0) : M (8 + j) 0 = j := (h.2.1 j hj).2.1
theorem cl_t0 (h : cl_S M X F N O B) {j : Nat} (hj : j < N 1 0) (h3 : j < 3) : F (8 + j) 2 = none := by rw [(h.2.1 j hj).2.2, if_pos h3]
theorem cl_t1 (h : cl_S M X F N O B) {j : Nat} (hj : j < N 1 0) (h3 : 3 ≤ j) : F (8 + j) 2 = some (8 + N 2 j) := by rw [(h.2.1 j hj).2.2, if_neg (by omega)]
theorem cl_tn (h : cl_S M X F N O B) {j : Nat} (hj : j < N 1 0) (hn : F (8 + j) 2 = none) : j < 3 := by
  apply Classical.byContradiction
  intro q
  rw [cl_t1 h hj (by omega)] at hn
  cases hn
theorem cl_ts (h : cl_S M X F N O B) {j k : Nat} (hj : j < N 1 0) (hn : F (8 + j) 2 = some k) : 3 ≤ j ∧ k = 8 + N 2 j := by
  by_cases h3 : j < 3
  · rw [cl_t0 h hj h3] at hn; cases hn
  · rw [cl_t1 h hj (by omega)] at hn; cases hn; exact ⟨by omega, rfl⟩
theorem cl_tl (h : cl_S M X F N O B) {j : Nat} (hj : j < N 1 0) (h3 : 3 ≤ j) : N 2 j < N 1 0 := by
  obtain ⟨rk, hrk⟩ := (cl_tr h).2.2
  exact (hrk j h3 hj).1
theorem cl_b (h : cl_S M X F N O B) {t : Nat} (ht : t < N 6 0) : F 2 t = some (20 + t) := (h.2.2.1 t ht).1
theorem cl_bn (h : cl_S M X F N O B) {t : Nat} (ht : t < N 6 0) : M (20 + t) 0 = t := (h.2.2.1 t ht).2.1
theorem cl_hl (h : cl_S M X F N O B) {t : Nat} (ht : t < N 6 0) : N 7 t < N 1 0 := (h.2.2.1 t ht).2.2.1
theorem cl_h (h : cl_S M X F N O B) {t : Nat} (ht : t < N 6 0) : F (20 + t) 1 = some (8 + N 7 t) := (h.2.2.1 t ht).2.2.2.1
theorem cl_x (h : cl_S M X F N O B) {t : Nat} (ht : t < N 6 0) : X (20 + t) 2 = B 14 t := (h.2.2.1 t ht).2.2.2.2.1
theorem cl_cn (h : cl_S M X F N O B) {t : Nat} (ht : t < N 6 0) (hn : F (20 + t) 5 = none) : O 9 t = none := by
  rw [(h.2.2.1 t ht).2.2.2.2.2.1] at hn
  cases ho : O 9 t with
  | none => rfl
  | some c => rw [ho] at hn; cases hn
theorem cl_cs (h : cl_S M X F N O B) {t k : Nat} (ht : t < N 6 0) (hn : F (20 + t) 5 = some k) : ∃ c, O 9 t = some c ∧ c < t ∧ k = 20 + c := by
  rw [(h.2.2.1 t ht).2.2.2.2.2.1] at hn
  cases ho : O 9 t with
  | none => rw [ho] at hn; cases hn
  | some c => rw [ho] at hn; cases hn; exact ⟨c, rfl, h.2.2.2.1 t c ht ho, rfl⟩
theorem cl_mn (h : cl_S M X F N O B) {t : Nat} (ht : t < N 6 0) (hn : F (20 + t) 6 = none) : O 10 t = none := by
  rw [(h.2.2.1 t ht).2.2.2.2.2.2] at hn
  cases ho : O 10 t with
  | none => rfl
  | some c => rw [ho] at hn; cases hn
theorem cl_ms (h : cl_S M X F N O B) {t k : Nat} (ht : t < N 6 0) (hn : F (20 + t) 6 = some k) : ∃ g, O 10 t = some g ∧ g < 4 ∧ k = 4 + g := by
  rw [(h.2.2.1 t ht).2.2.2.2.2.2] at hn
  cases ho : O 10 t with
  | none => rw [ho] at hn; cases hn
  | some c => rw [ho] at hn; cases hn; exact ⟨c, rfl, h.2.2.2.2.1 t c ht ho, rfl⟩
theorem cl_g (h : cl_S M X F N O B) {g : Nat} (hg : g < 4) : F 3 g = some (4 + g) := h.2.2.2.2.2.1 g hg
theorem cl_fs (h : cl_S M X F N O B) {j k : Nat} (hj : j < N 1 0) (hn : F (8 + j) 4 = some k) : ∃ t, t < N 6 0 ∧ k = 20 + t := h.2.2.2.2.2.2.1 j k hj hn
theorem cl_ls (h : cl_S M X F N O B) {j k : Nat} (hj : j < N 1 0) (hn : F (8 + j) 5 = some k) : ∃ t, t < N 6 0 ∧ k = 20 + t := h.2.2.2.2.2.2.2.1 j k hj hn
theorem cl_ys (h : cl_S M X F N O B) {t k : Nat} (ht : t < N 6 0) (hn : F (20 + t) 10 = some k) : ∃ u, u < N 6 0 ∧ k = 20 + u := h.2.2.2.2.2.2.2.2.1 t k ht hn
theorem cl_hs (h : cl_S M X F N O B) {t k : Nat} (ht : t < N 6 0) (hn : F (20 + t) 7 = some k) : ∃ g, g < 4 ∧ k = 4 + g := h.2.2.2.2.2.2.2.2.2 t k ht hn
end CLS
/-- among those that y leads to: y itself, and those that its target leads to -/
theorem sp_any {N : sp_N} (hT : sp_Tr N) (P : Nat → Bool) {y : Nat} (hy : y < N 1 0) : sp_a (fun x => sp_l N y x && P x) (N 1 0) = (P y || (decide (3 ≤ y) && sp_a (fun x => sp_l N (N 2 y) x && P x) (N 1 0))) := by
  rw [Bool.eq_iff_iff, Bool.or_eq_true, Bool.and_eq_true, sp_a_iff, sp_a_iff]
  constructor
  · rintro ⟨x, hx, h⟩
    rw [Bool.and_eq_true] at h
    obtain ⟨h1, h2⟩ := h
    rw [sp_l_eq hT hy] at h1
    by_cases hyx : y = x
    · subst hyx; exact Or.inl h2
    · rw [if_neg hyx] at h1
      by_cases h3 : y < 3
      · rw [if_pos h3] at h1; cases h1
      · rw [if_neg h3] at h1
        exact Or.inr ⟨by simpa using Nat.not_lt.mp h3, x, hx, by rw [h1, h2]; rfl⟩
  · rintro (h | ⟨h3, x, hx, h⟩)
    · exact ⟨y, hy, by rw [sp_l_self, h]; rfl⟩
    · refine ⟨x, hx, ?_⟩
      rw [Bool.and_eq_true] at h ⊢
      refine ⟨?_, h.2⟩
      rw [sp_l_eq hT hy]
      by_cases hyx : y = x
      · rw [if_pos hyx]
      · rw [if_neg hyx, if_neg (by simpa using h3)]
        exact h.1
/-- what the class's readers answer -/
def cs_cl (X : sp_B) (F : sp_O) (j : Nat) : Bool := match F (8 + j) 4 with
  | none => false
  | some k => X k 2
def cs_rm (M : sp_N) (j : Nat) : Bool := decide (j < 3) || decide (M (8 + j) 7 < M (8 + j) 1)
/-- x doesn't let a block of home h in -/
def cs_no (M : sp_N) (X : sp_B) (F : sp_O) (h x : Nat) : Bool := decide (0 < M (8 + x) 3) || !cs_rm M x || X (8 + x) 9 || (!decide (x = h) && cs_cl X F x)
def cs_in (M : sp_N) (X : sp_B) (F : sp_O) (N : sp_N) (t : Nat) : Bool := if X (20 + t) 2 = true ∧ 0 < M (8 + N 7 t) 7 then false else !(sp_a (fun x => sp_l N (N 7 t) x && cs_no M X F (N 7 t) x) (N 1 0))
def cs_ms (M : sp_N) (X : sp_B) (F : sp_O) (N : sp_N) (t : Nat) : Bool := cs_in M X F N t && (X (20 + t) 4 || !decide (F (20 + t) 5 = none) || decide (M 0 6 < M 0 0))
def cs_bf (M : sp_N) (N : sp_N) (t u : Nat) : Bool := decide (sp_r N (N 7 u) < sp_r N (N 7 t)) || (decide (sp_r N (N 7 t) = sp_r N (N 7 u)) && decide (M (20 + t) 9 < M (20 + u) 9))
/-- numbers stay small -/
def cl_B (M : sp_N) : Prop := ∀ k f, M k f < 2 ^ 31
