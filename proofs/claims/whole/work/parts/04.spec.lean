/-! Part 04: the mathematical state and what the reference's methods answer of it.
N f j: numbers, O f j: optional numbers (-1 is none), Z f j: longs, B f j: booleans; f is the slot of the reference's field:
0 pool, 1 queues, 2 target, 3 width, 4 holds, 5 peaks, 6 blocks, 7 home, 8 state, 9 caller, 10 member, 11 awaits, 12 stamp, 13 deadline, 14 barrier, 15 dropped, 16 stamps, 17 entered, 18 clock (scalars at place 0). -/
abbrev sp_N : Type := Nat → Nat → Nat
abbrev sp_O : Type := Nat → Nat → Option Nat
abbrev sp_Z : Type := Nat → Nat → Int64
abbrev sp_B : Type := Nat → Nat → Bool
def sp_u {α : Type} (N : Nat → Nat → α) (f j : Nat) (v : α) : Nat → Nat → α := va_up N f (va_up (N f) j v)
theorem sp_u_app {α : Type} (N : Nat → Nat → α) (f j : Nat) (v : α) (f' j' : Nat) : sp_u N f j v f' j' = if f' = f ∧ j' = j then v else N f' j' := by
  unfold sp_u va_up
  by_cases h : f' = f
  · subst h
    by_cases h2 : j' = j <;> simp [h2]
  · simp [h]
theorem sp_u_self {α : Type} (N : Nat → Nat → α) (f j : Nat) (v : α) : sp_u N f j v f j = v := by simp [sp_u_app]
theorem sp_u_f {α : Type} (N : Nat → Nat → α) {f f' : Nat} (j : Nat) (v : α) (h : f' ≠ f) : sp_u N f j v f' = N f' := by
  funext j'
  simp [sp_u_app, h]
/-- how many below n -/
def sp_c (P : Nat → Bool) : Nat → Nat
  | 0 => 0
  | n + 1 => sp_c P n + (if P n = true then 1 else 0)
/-- is there one below n -/
def sp_a (P : Nat → Bool) : Nat → Bool
  | 0 => false
  | n + 1 => sp_a P n || P n
theorem sp_c_le (P : Nat → Bool) : ∀ n, sp_c P n ≤ n
  | 0 => Nat.le_refl _
  | n + 1 => by
    have h := sp_c_le P n
    unfold sp_c
    split <;> omega
/-- y leads to x in fewer than n steps -/
def sp_k (N : sp_N) : Nat → Nat → Nat → Bool
  | 0, _, _ => false
  | n + 1, y, x => if y = x then true else if y < 3 then false else sp_k N n (N 2 y) x
def sp_l (N : sp_N) (a b : Nat) : Bool := sp_k N 12 a b
def sp_r (N : sp_N) (a : Nat) : Nat := if sp_l N a 0 = true then 0 else if sp_l N a 1 = true then 1 else 2
def sp_v (N : sp_N) (t : Nat) : Bool := decide (N 8 t = 3) || decide (N 8 t = 4)
def sp_p (N : sp_N) (x : Nat) : Nat := sp_c (fun t => sp_v N t && sp_l N (N 7 t) x) (N 6 0)
def sp_w (N : sp_N) (O : sp_O) : Nat := sp_c (fun t => sp_v N t && decide (O 9 t = none)) (N 6 0)
/-- n goes before the best so far -/
def sp_f (N : sp_N) (o : Option Nat) (n : Nat) : Bool := match o with
  | none => true
  | some b => decide (N 12 n < N 12 b)
def sp_o (N : sp_N) (x : Nat) : Nat → Option Nat
  | 0 => none
  | n + 1 => if N 8 n = 2 ∧ N 7 n = x ∧ sp_f N (sp_o N x n) n = true then some n else sp_o N x n
def sp_b (N : sp_N) (B : sp_B) (x : Nat) : Bool := sp_a (fun t => sp_v N t && B 14 t && decide (N 7 t = x)) (N 6 0)
def sp_ff (N : sp_N) (x t : Nat) : Option Nat := if x = N 7 t then none else sp_o N x (N 6 0)
def sp_t (N : sp_N) (B : sp_B) (x t : Nat) : Bool :=
  if 3 ≤ x ∧ (0 < N 4 x ∨ N 3 x ≤ sp_p N x) then false else if sp_b N B x = true then false else match sp_ff N x t with
    | none => true
    | some f => !B 14 f
def sp_m (N : sp_N) (O : sp_O) (B : sp_B) (t : Nat) : Bool :=
  if ¬ N 8 t = 2 ∨ ¬ sp_o N (N 7 t) (N 6 0) = some t then false
  else if B 14 t = true ∧ 0 < sp_p N (N 7 t) then false
  else if B 15 t = false ∧ O 9 t = none ∧ N 0 0 ≤ sp_w N O then false
  else !(sp_a (fun x => sp_l N (N 7 t) x && !sp_t N B x t) (N 1 0))
def sp_g (N : sp_N) (O : sp_O) (g : Nat) : Nat := N 17 g + sp_c (fun t => decide (O 10 t = some g) && decide (N 8 t < 5)) (N 6 0)
/-- n is chosen before the best so far -/
def sp_e (N : sp_N) (o : Option Nat) (n : Nat) : Bool := match o with
  | none => true
  | some b => decide (sp_r N (N 7 b) < sp_r N (N 7 n)) || (decide (sp_r N (N 7 n) = sp_r N (N 7 b)) && decide (N 12 n < N 12 b))
def sp_h (N : sp_N) (O : sp_O) (B : sp_B) : Nat → Option Nat
  | 0 => none
  | n + 1 => if sp_m N O B n = true ∧ sp_e N (sp_h N O B n) n = true then some n else sp_h N O B n
def sp_i (Z : sp_Z) (o : Option Nat) (n : Nat) : Bool := match o with
  | none => true
  | some b => decide (Z 13 n < Z 13 b)
def sp_d (N : sp_N) (Z : sp_Z) : Nat → Option Nat
  | 0 => none
  | n + 1 => if N 8 n = 1 ∧ Z 13 n ≤ Z 18 0 ∧ sp_i Z (sp_d N Z n) n = true then some n else sp_d N Z n
def sp_q (N : sp_N) (q : Nat) : Nat := sp_c (fun t => decide (N 8 t = 2) && decide (N 7 t = q)) (N 6 0)
def sp_y (N : sp_N) (O : sp_O) (B : sp_B) : Nat := sp_c (sp_m N O B) (N 6 0)
/-- what is written -/
def sp_L (N : sp_N) (t : Nat) : sp_N := sp_u (sp_u (sp_u N 8 t 2) 12 t (N 16 0)) 16 0 (N 16 0 + 1)
def sp_R (N : sp_N) (O : sp_O) (g : Nat) : Nat → sp_N
  | 0 => N
  | n + 1 => if sp_R N O g n 8 n = 0 ∧ O 11 n = some g then sp_L (sp_R N O g n) n else sp_R N O g n
def sp_S (N : sp_N) (O : sp_O) (g : Nat) : sp_N := if 0 < sp_g N O g then N else sp_R N O g (N 6 0)
def sp_C (N : sp_N) (O : sp_O) (t : Nat) : sp_N := match O 9 t with
  | none => N
  | some c => sp_u N 8 c 3
def sp_E (N : sp_N) (O : sp_O) (t how : Nat) : sp_N := match O 10 t with
  | none => sp_C (sp_u N 8 t how) O t
  | some g => sp_S (sp_C (sp_u N 8 t how) O t) O g
def sp_AN (N : sp_N) (q : Nat) : sp_N := sp_u (sp_u (sp_u N 6 0 (N 6 0 + 1)) 7 (N 6 0) q) 8 (N 6 0) 1
def sp_AO (N : sp_N) (O : sp_O) : sp_O := sp_u (sp_u (sp_u O 9 (N 6 0) none) 10 (N 6 0) none) 11 (N 6 0) none
def sp_AB (N : sp_N) (B : sp_B) (q : Nat) (bar : Bool) : sp_B := sp_u B 14 (N 6 0) (bar && decide (3 ≤ q))
/-- what bounds the numbers -/
def sp_Bd (N : sp_N) (O : sp_O) : Prop := N 0 0 ≤ 8 ∧ N 1 0 ≤ 12 ∧ (∀ j, N 2 j < 12) ∧ (∀ j, N 3 j ≤ 8) ∧ (∀ j, N 4 j ≤ 100) ∧ (∀ j, N 5 j ≤ 160) ∧ N 6 0 ≤ 160 ∧ (∀ t, N 7 t < 12) ∧ (∀ t, N 8 t < 7) ∧ (∀ t k, O 9 t = some k → k < 160) ∧ (∀ t k, O 10 t = some k → k < 4) ∧ (∀ t k, O 11 t = some k → k < 4) ∧ (∀ t, N 12 t < 2 ^ 31) ∧ (∀ g, N 17 g ≤ 200)
