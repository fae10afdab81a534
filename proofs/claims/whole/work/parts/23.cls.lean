/-! Part 23: what the class's own readers answer. -/
def cs_i (G : sp_Z) (o : Option Nat) (n : Nat) : Bool := match o with
  | none => true
  | some b => decide (G (20 + n) 8 < G (20 + b) 8)
def cs_d (M : sp_N) (G : sp_Z) : Nat → Option Nat
  | 0 => none
  | n + 1 => if M (20 + n) 3 = 1 ∧ G (20 + n) 8 ≤ G 0 8 ∧ cs_i G (cs_d M G n) n = true then some n else cs_d M G n
theorem cs_d_lt {M : sp_N} {G : sp_Z} {b : Nat} : ∀ {n : Nat}, cs_d M G n = some b → b < n
  | 0, h => by cases h
  | n + 1, h => by
    unfold cs_d at h
    split at h
    · cases h; omega
    · have := cs_d_lt h; omega
/-- the ticket of the first block of a line -/
def cs_f (F : sp_O) (j : Nat) : Option Nat := (F (8 + j) 4).map (fun k => k - 20)
def cs_mo (M : sp_N) (X : sp_B) (F : sp_O) (N : sp_N) (o : Option Nat) : Bool := match o with
  | none => false
  | some t => cs_ms M X F N t
def cs_e (M : sp_N) (N : sp_N) (o : Option Nat) (t : Nat) : Bool := match o with
  | none => true
  | some b => cs_bf M N t b
def cs_g (M : sp_N) (X : sp_B) (F : sp_O) (N : sp_N) (best f : Option Nat) : Option Nat := match f with
  | none => best
  | some t => if cs_ms M X F N t = true ∧ cs_e M N best t = true then some t else best
def cs_h (M : sp_N) (X : sp_B) (F : sp_O) (N : sp_N) : Nat → Option Nat
  | 0 => none
  | i + 1 => cs_g M X F N (cs_h M X F N i) (cs_f F i)
def cs_y (M : sp_N) (X : sp_B) (F : sp_O) (N : sp_N) : Nat := sp_c (fun i => cs_mo M X F N (cs_f F i)) (N 1 0)
def cs_ic (N : sp_N) (O : sp_O) (B : sp_B) (y : Nat) (sh : Bool) : Nat → Option Nat → Bool
  | 0, _ => false
  | _ + 1, none => false
  | n + 1, some c => if ((sh || (B 14 c && decide (N 7 c = y))) && sp_l N (N 7 c) y) = true then true else cs_ic N O B y sh n (O 9 c)
def cs_sh (M : sp_N) (j : Nat) (bar : Bool) (y : Nat) : Bool := decide (M (8 + y) 1 = 1) || (bar && decide (y = j))
def cs_dp (M : sp_N) (N : sp_N) (O : sp_O) (B : sp_B) (c j : Nat) (bar : Bool) (x : Nat) : Bool := decide (3 ≤ x) && cs_ic N O B x (cs_sh M j bar x) 160 (some c)
def cs_dk (M : sp_N) (N : sp_N) (O : sp_O) (B : sp_B) (c j : Nat) (bar : Bool) : Bool := sp_a (fun x => sp_l N j x && cs_dp M N O B c j bar x) (N 1 0)
def cs_dl (G : sp_Z) (d : Int64) : Int64 := if d < 9223372036854775807 - G 0 8 then G 0 8 + d else 9223372036854775807
def cs_q (M : sp_N) (o : Option Nat) (f : Nat) : Int32 := match o with
  | none => -1
  | some a => nI (M (8 + a) f)
def cs_ct (M : sp_N) (o : Option Nat) : Int32 := match o with
  | none => -2
  | some a => nI (M (4 + a) 0 + M (4 + a) 1)
def cs_st (M : sp_N) (X : sp_B) (o : Option Nat) : Int32 := match o with
  | none => -3
  | some a => nI (M (20 + a) 3 + (if X (20 + a) 4 = true then 8 else 0))
theorem bd_map_n {n b : Nat} {q : Int32} (h : (bd_at q n).map (fun j => b + j) = none) : bd_at q n = none := by
  cases ho : bd_at q n with
  | none => rfl
  | some a => rw [ho] at h; cases h
theorem bd_map_s {n b k : Nat} {q : Int32} (hn : n < 2 ^ 31) (h : (bd_at q n).map (fun j => b + j) = some k) : ∃ a, bd_at q n = some a ∧ a < n ∧ q = nI a ∧ k = b + a := by
  cases ho : bd_at q n with
  | none => rw [ho] at h; cases h
  | some a => rw [ho] at h; cases h; exact ⟨a, rfl, (bd_at_some hn ho).1, (bd_at_some hn ho).2, rfl⟩
theorem bd_mp_n {b : Nat} {o : Option Nat} (h : o.map (fun j => b + j) = none) : o = none := by
  cases ho : o with
  | none => rfl
  | some a => rw [ho] at h; cases h
theorem bd_mp_s {b k : Nat} {o : Option Nat} (h : o.map (fun j => b + j) = some k) : ∃ a, o = some a ∧ k = b + a := by
  cases ho : o with
  | none => rw [ho] at h; cases h
  | some a => rw [ho] at h; cases h; exact ⟨a, rfl, rfl⟩
