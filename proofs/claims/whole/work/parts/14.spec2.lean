/-! Part 14: what the public methods answer and write, in numbers; calls of methods that write. -/
def bd_at (q : Int32) (n : Nat) : Option Nat := if bd_in q n = true then some q.toNatClampNeg else none
def bd_wd (w : Int32) : Option Nat := if w < nI 1 then none else if w ≤ nI 8 then some w.toNatClampNeg else none
/-- a group, or -1 for none of them -/
def bd_gr (g : Int32) : Option (Option Nat) := if g < -1 then none else if g ≤ nI 3 then some (if g = -1 then none else some g.toNatClampNeg) else none
theorem bd_at_none {q : Int32} {n : Nat} (h : bd_in q n = false) : bd_at q n = none := by rw [bd_at, if_neg (by rw [h]; decide)]
theorem bd_at_in {a n : Nat} (h : a < n) (hn : n < 2 ^ 31) : bd_at (nI a) n = some a := by
  rw [bd_at, bd_in_nI (by omega), decide_eq_true h, nI_clamp (by omega)]
  rfl
theorem bd_at_some {q : Int32} {n a : Nat} (hn : n < 2 ^ 31) (h : bd_at q n = some a) : a < n ∧ q = nI a := by
  unfold bd_at at h
  split at h
  · rename_i h1
    obtain ⟨b, hb, rfl⟩ := bd_in_of h1 hn
    rw [nI_clamp (by omega)] at h
    cases h
    exact ⟨hb, rfl⟩
  · cases h
theorem bd_wd_1 {w : Int32} (h : w < nI 1) : bd_wd w = none := by rw [bd_wd, if_pos h]
theorem bd_wd_2 {w : Int32} (h : ¬ w ≤ nI 8) : bd_wd w = none := by
  rw [bd_wd, if_neg h]
  split <;> rfl
theorem bd_wd_3 {w : Int32} (h1 : ¬ w < nI 1) (h2 : w ≤ nI 8) : ∃ b, 1 ≤ b ∧ b ≤ 8 ∧ w = nI b ∧ bd_wd w = some b := by
  have h3 : ¬ w.toInt < 1 := fun z => h1 (Int32.lt_iff_toInt_lt.mpr (by rw [nI_toInt (by decide)]; exact z))
  have h4 := Int32.le_iff_toInt_le.mp h2
  rw [nI_toInt (by decide)] at h4
  obtain ⟨b, hb, rfl⟩ := vp_in_of (n := 9) (x := w) (vp_in_iff.mpr ⟨by omega, by omega⟩) (by decide)
  rw [nI_toInt (by omega)] at h3 h4
  refine ⟨b, by omega, by omega, rfl, ?_⟩
  rw [bd_wd, if_neg h1, if_pos h2, nI_clamp (by omega)]
theorem bd_gr_1 {g : Int32} (h : g < -1) : bd_gr g = none := by rw [bd_gr, if_pos h]
theorem bd_gr_2 {g : Int32} (h : ¬ g ≤ nI 3) : bd_gr g = none := by
  rw [bd_gr, if_neg h]
  split <;> rfl
theorem bd_gr_3 {g : Int32} (h1 : ¬ g < -1) (h2 : g ≤ nI 3) : ∃ o : Option Nat, (∀ k, o = some k → k < 4) ∧ g = bd_o o ∧ bd_gr g = some o := by
  by_cases hg : g = -1
  · subst hg
    exact ⟨none, fun k h => (by cases h), rfl, by decide⟩
  · have e1 : (-1 : Int32).toInt = -1 := by decide
    have h3 : ¬ g.toInt < -1 := fun z => h1 (Int32.lt_iff_toInt_lt.mpr (by rw [e1]; exact z))
    have h4 := Int32.le_iff_toInt_le.mp h2
    rw [nI_toInt (by decide)] at h4
    have h5 : ¬ g.toInt = -1 := fun z => hg (Int32.toInt_inj.mp (by rw [e1]; exact z))
    obtain ⟨b, hb, rfl⟩ := vp_in_of (n := 4) (x := g) (vp_in_iff.mpr ⟨by omega, by omega⟩) (by decide)
    refine ⟨some b, fun k h => (by cases h; omega), rfl, ?_⟩
    rw [bd_gr, if_neg h1, if_pos h2, if_neg hg, nI_clamp (by omega)]
/-- queue -/
def am_queue (N : sp_N) (q w : Option Nat) : Int32 := match q, w with
  | none, _ => -1
  | some _, none => -9
  | some _, some _ => if N 1 0 = 12 then -4 else nI (N 1 0)
def nm_queue (N : sp_N) (q w : Option Nat) : sp_N := match q, w with
  | some a, some b => if N 1 0 = 12 then N else sp_u (sp_u (sp_u N 2 (N 1 0) a) 3 (N 1 0) b) 1 0 (N 1 0 + 1)
  | none, _ => N
  | some _, none => N
/-- retarget -/
def am_retarget (N : sp_N) (q t : Option Nat) : Int32 := match q with
  | none => -1
  | some a => if a < 3 then -1 else match t with
    | none => -1
    | some b => if sp_l N b a = true then -5 else if 0 < sp_p N a then -6 else nI 0
def nm_retarget (N : sp_N) (q t : Option Nat) : sp_N := match q with
  | none => N
  | some a => if a < 3 then N else match t with
    | none => N
    | some b => if sp_l N b a = true then N else if 0 < sp_p N a then N else sp_u N 2 a b
/-- accept, then what is given -/
def am_new (N : sp_N) (q : Option Nat) : Int32 := match q with
  | none => -1
  | some _ => if N 6 0 = 160 then -4 else nI (N 6 0)
def am_submit (N : sp_N) (q : Option Nat) (g : Option (Option Nat)) : Int32 := match q, g with
  | none, _ => -1
  | some _, none => -2
  | some _, some _ => if N 6 0 = 160 then -4 else nI (N 6 0)
def nm_submit (N : sp_N) (q : Option Nat) (g : Option (Option Nat)) : sp_N := match q, g with
  | some a, some _ => if N 6 0 = 160 then N else sp_L (sp_AN N a) (N 6 0)
  | none, _ => N
  | some _, none => N
def om_submit (N : sp_N) (O : sp_O) (q : Option Nat) (g : Option (Option Nat)) : sp_O := match q, g with
  | some _, some o => if N 6 0 = 160 then O else sp_u (sp_AO N O) 10 (N 6 0) o
  | none, _ => O
  | some _, none => O
def bm_submit (N : sp_N) (B : sp_B) (q : Option Nat) (bar : Bool) (g : Option (Option Nat)) : sp_B := match q, g with
  | some a, some _ => if N 6 0 = 160 then B else sp_AB N B a bar
  | none, _ => B
  | some _, none => B
/-- after -/
def nm_after (N : sp_N) (q : Option Nat) (d : Int64) : sp_N := match q with
  | none => N
  | some a => if N 6 0 = 160 then N else if d ≤ 0 then sp_L (sp_AN N a) (N 6 0) else sp_AN N a
def om_after (N : sp_N) (O : sp_O) (q : Option Nat) : sp_O := match q with
  | none => O
  | some _ => if N 6 0 = 160 then O else sp_AO N O
def bm_after (N : sp_N) (B : sp_B) (q : Option Nat) : sp_B := match q with
  | none => B
  | some a => if N 6 0 = 160 then B else sp_AB N B a false
def zm_dl (Z : sp_Z) (d : Int64) : Int64 := if d < 9223372036854775807 - Z 18 0 then Z 18 0 + d else 9223372036854775807
def zm_after (N : sp_N) (Z : sp_Z) (q : Option Nat) (d : Int64) : sp_Z := match q with
  | none => Z
  | some _ => if N 6 0 = 160 then Z else if d ≤ 0 then Z else sp_u Z 13 (N 6 0) (zm_dl Z d)
/-- call: is one of the callers in the way -/
def sp_dl (N : sp_N) (O : sp_O) (B : sp_B) (q : Nat) (bar : Bool) : Nat → Option Nat → Bool
  | 0, _ => false
  | _ + 1, none => false
  | n + 1, some c => if sp_x N B c q bar = true then true else sp_dl N O B q bar n (O 9 c)
def am_call (N : sp_N) (O : sp_O) (B : sp_B) (c q : Option Nat) (bar : Bool) : Int32 := match c with
  | none => -3
  | some a => if N 8 a = 3 then match q with
      | none => -1
      | some b => if sp_dl N O B b bar 160 (some a) = true then -7 else if N 6 0 = 160 then -4 else nI (N 6 0)
    else -3
/-- the call is taken -/
def ok_call (N : sp_N) (O : sp_O) (B : sp_B) (c q : Option Nat) (bar : Bool) : Option (Nat × Nat) := match c with
  | none => none
  | some a => if N 8 a = 3 then match q with
      | none => none
      | some b => if sp_dl N O B b bar 160 (some a) = true then none else if N 6 0 = 160 then none else some (a, b)
    else none
def nm_call (N : sp_N) (o : Option (Nat × Nat)) : sp_N := match o with
  | none => N
  | some (a, b) => sp_L (sp_u (sp_AN N b) 8 a 4) (N 6 0)
def om_call (N : sp_N) (O : sp_O) (o : Option (Nat × Nat)) : sp_O := match o with
  | none => O
  | some (a, _) => sp_u (sp_AO N O) 9 (N 6 0) (some a)
def bm_call (N : sp_N) (B : sp_B) (bar : Bool) (o : Option (Nat × Nat)) : sp_B := match o with
  | none => B
  | some (_, b) => sp_AB N B b bar
/-- whenDone -/
def am_when (N : sp_N) (g q : Option Nat) : Int32 := match g with
  | none => -2
  | some _ => am_new N q
def nm_when (N : sp_N) (O : sp_O) (g q : Option Nat) : sp_N := match g, q with
  | some k, some a => if N 6 0 = 160 then N else if sp_g (sp_AN N a) (sp_u (sp_AO N O) 11 (N 6 0) (some k)) k = 0 then sp_L (sp_AN N a) (N 6 0) else sp_u (sp_AN N a) 8 (N 6 0) 0
  | none, _ => N
  | some _, none => N
def om_when (N : sp_N) (O : sp_O) (g q : Option Nat) : sp_O := match g, q with
  | some k, some _ => if N 6 0 = 160 then O else sp_u (sp_AO N O) 11 (N 6 0) (some k)
  | none, _ => O
  | some _, none => O
def bm_when (N : sp_N) (B : sp_B) (g q : Option Nat) : sp_B := match g, q with
  | some _, some a => if N 6 0 = 160 then B else sp_AB N B a false
  | none, _ => B
  | some _, none => B
/-- enter, leave, cancel, hold, finish -/
def am_enter (N : sp_N) (g : Option Nat) : Bool := match g with
  | none => false
  | some k => decide (N 17 k < 200)
def nm_enter (N : sp_N) (g : Option Nat) : sp_N := match g with
  | none => N
  | some k => if N 17 k < 200 then sp_u N 17 k (N 17 k + 1) else N
def am_leave (N : sp_N) (g : Option Nat) : Bool := match g with
  | none => false
  | some k => !decide (N 17 k = 0)
def nm_leave (N : sp_N) (O : sp_O) (g : Option Nat) : sp_N := match g with
  | none => N
  | some k => if N 17 k = 0 then N else sp_S (sp_u N 17 k (N 17 k - 1)) O k
def am_cancel (N : sp_N) (B : sp_B) (t : Option Nat) : Bool := match t with
  | none => false
  | some a => decide (N 8 a ≤ 2) && !B 15 a
def bm_cancel (N : sp_N) (B : sp_B) (t : Option Nat) : sp_B := match t with
  | none => B
  | some a => if N 8 a ≤ 2 then if B 15 a = true then B else sp_u B 15 a true else B
def am_hold (N : sp_N) (q : Option Nat) (on : Bool) : Int32 := match q with
  | none => -1
  | some a => if a < 3 then -1 else if on = true then if N 4 a = 100 then -4 else nI (N 4 a + 1) else if N 4 a = 0 then -8 else nI (N 4 a - 1)
def nm_hold (N : sp_N) (q : Option Nat) (on : Bool) : sp_N := match q with
  | none => N
  | some a => if a < 3 then N else if on = true then if N 4 a = 100 then N else sp_u N 4 a (N 4 a + 1) else if N 4 a = 0 then N else sp_u N 4 a (N 4 a - 1)
def am_finish (N : sp_N) (t : Option Nat) : Bool := match t with
  | none => false
  | some a => decide (N 8 a = 3)
def nm_finish (N : sp_N) (O : sp_O) (t : Option Nat) : sp_N := match t with
  | none => N
  | some a => if N 8 a = 3 then sp_E N O a 5 else N
/-- begin: the cancelled ones first -/
def sp_bf (O : sp_O) (B : sp_B) : Nat → sp_N → sp_N
  | 0, N => N
  | f + 1, N => match sp_h N O B (N 6 0) with
    | none => N
    | some t => if B 15 t = true then sp_bf O B f (sp_E N O t 6) else N
def sp_pk (N : sp_N) : Nat → sp_N
  | 0 => N
  | x + 1 => sp_u (sp_pk N x) 5 x (if sp_p (sp_pk N x) x ≤ sp_pk N x 5 x then sp_pk N x 5 x else sp_p (sp_pk N x) x)
def sp_st (N : sp_N) (o : Option Nat) : sp_N := match o with
  | none => N
  | some t => sp_pk (sp_u N 8 t 3) (N 1 0)
def am_st (o : Option Nat) : Int32 := match o with
  | none => -8
  | some t => nI t
def am_begin (N : sp_N) (O : sp_O) (B : sp_B) : Int32 := am_st (sp_h (sp_bf O B 161 N) O B (sp_bf O B 161 N 6 0))
def nm_begin (N : sp_N) (O : sp_O) (B : sp_B) : sp_N := sp_st (sp_bf O B 161 N) (sp_h (sp_bf O B 161 N) O B (sp_bf O B 161 N 6 0))
/-- advance -/
def zm_adv (Z : sp_Z) (d : Int64) : sp_Z := if d < 0 then Z else sp_u Z 18 0 (if d ≤ 9223372036854775806 - Z 18 0 then Z 18 0 + d else 9223372036854775806)
def sp_av (Z : sp_Z) : Nat → sp_N → sp_N
  | 0, N => N
  | f + 1, N => match sp_d N Z (N 6 0) with
    | none => N
    | some t => sp_av Z f (sp_L N t)
def sp_ac (Z : sp_Z) : Nat → sp_N → Nat
  | 0, _ => 0
  | f + 1, N => match sp_d N Z (N 6 0) with
    | none => 0
    | some t => sp_ac Z f (sp_L N t) + 1
def am_adv (N : sp_N) (Z : sp_Z) (d : Int64) : Int32 := if d < 0 then -9 else nI (sp_ac (zm_adv Z d) 160 N)
def nm_adv (N : sp_N) (Z : sp_Z) (d : Int64) : sp_N := if d < 0 then N else sp_av (zm_adv Z d) 160 N
/-- bounds along the way -/
def sp_okb (O : sp_O) (B : sp_B) : Nat → sp_N → Prop
  | 0, N => sp_Bd N O
  | f + 1, N => sp_Bd N O ∧ ∀ t, sp_h N O B (N 6 0) = some t → B 15 t = true → sp_okb O B f (sp_E N O t 6)
def sp_oka (O : sp_O) (Z : sp_Z) : Nat → sp_N → Prop
  | 0, N => sp_Bd N O
  | f + 1, N => sp_Bd N O ∧ ∀ t, sp_d N Z (N 6 0) = some t → sp_oka O Z f (sp_L N t)
theorem sp_Bd_8 {N : sp_N} {O : sp_O} (h : sp_Bd N O) (t v : Nat) (hv : v < 7) : sp_Bd (sp_u N 8 t v) O := by
  obtain ⟨h0, h1, h2, h3, h4, h5, h6, h7, h8, h9, h10, h11, h12, h17⟩ := h
  refine ⟨h0, h1, h2, h3, h4, h5, h6, h7, fun j => ?_, h9, h10, h11, h12, h17⟩
  rw [sp_u_app]
  split
  · exact hv
  · exact h8 j
theorem sp_Bd_17 {N : sp_N} {O : sp_O} (h : sp_Bd N O) (t v : Nat) (hv : v ≤ 200) : sp_Bd (sp_u N 17 t v) O := by
  obtain ⟨h0, h1, h2, h3, h4, h5, h6, h7, h8, h9, h10, h11, h12, h17⟩ := h
  refine ⟨h0, h1, h2, h3, h4, h5, h6, h7, h8, h9, h10, h11, h12, fun j => ?_⟩
  rw [sp_u_app]
  split
  · exact hv
  · exact h17 j
theorem sp_Bd_C {N : sp_N} {O : sp_O} (h : sp_Bd N O) (t : Nat) : sp_Bd (sp_C N O t) O := by
  unfold sp_C
  split
  · exact h
  · exact sp_Bd_8 h _ _ (by decide)
theorem sp_Bd_5 {N : sp_N} {O : sp_O} (h : sp_Bd N O) (t v : Nat) (hv : v ≤ 160) : sp_Bd (sp_u N 5 t v) O := by
  obtain ⟨h0, h1, h2, h3, h4, h5, h6, h7, h8, h9, h10, h11, h12, h17⟩ := h
  refine ⟨h0, h1, h2, h3, h4, fun j => ?_, h6, h7, h8, h9, h10, h11, h12, h17⟩
  rw [sp_u_app]
  split
  · exact hv
  · exact h5 j
theorem sp_Bd_A {N : sp_N} {O : sp_O} (h : sp_Bd N O) (h6l : N 6 0 < 160) {q k : Nat} (hq : q < 12) (hk : k < 4) : sp_Bd (sp_AN N q) (sp_u (sp_AO N O) 11 (N 6 0) (some k)) := by
  obtain ⟨h0, h1, h2, h3, h4, h5, h6, h7, h8, h9, h10, h11, h12, h17⟩ := h
  refine ⟨h0, h1, h2, h3, h4, h5, ?_, fun t => ?_, fun t => ?_, fun t c hc => ?_, fun t c hc => ?_, fun t c hc => ?_, h12, h17⟩
  · show N 6 0 + 1 ≤ 160
    omega
  · show sp_u (sp_u N 6 0 (N 6 0 + 1)) 7 (N 6 0) q 7 t < 12
    rw [sp_u_app]
    split
    · exact hq
    · exact h7 t
  · show sp_u (sp_u (sp_u N 6 0 (N 6 0 + 1)) 7 (N 6 0) q) 8 (N 6 0) 1 8 t < 7
    rw [sp_u_app]
    split
    · decide
    · exact h8 t
  · have hc : sp_u O 9 (N 6 0) none 9 t = some c := hc
    rw [sp_u_app] at hc
    split at hc
    · cases hc
    · exact h9 t c hc
  · have hc : sp_u (sp_u O 9 (N 6 0) none) 10 (N 6 0) none 10 t = some c := hc
    rw [sp_u_app] at hc
    split at hc
    · cases hc
    · exact h10 t c hc
  · rw [sp_u_app] at hc
    split at hc
    · cases hc; exact hk
    · have hc : sp_u (sp_u (sp_u O 9 (N 6 0) none) 10 (N 6 0) none) 11 (N 6 0) none 11 t = some c := hc
      rw [sp_u_app] at hc
      split at hc
      · cases hc
      · exact h11 t c hc
theorem sp_g_lt {N : sp_N} {O : sp_O} (h : sp_Bd N O) (g : Nat) : sp_g N O g < 2 ^ 31 := by
  obtain ⟨-, -, -, -, -, -, h6, -, -, -, -, -, -, h17⟩ := h
  have h1 := sp_c_le (fun t => decide (O 10 t = some g) && decide (N 8 t < 5)) (N 6 0)
  have h2 := h17 g
  unfold sp_g
  omega
theorem sp_okb_Bd {O : sp_O} {B : sp_B} : ∀ {f : Nat} {N : sp_N}, sp_okb O B f N → sp_Bd N O
  | 0, _, h => h
  | _ + 1, _, h => h.1
theorem sp_oka_Bd {O : sp_O} {Z : sp_Z} : ∀ {f : Nat} {N : sp_N}, sp_oka O Z f N → sp_Bd N O
  | 0, _, h => h
  | _ + 1, _, h => h.1
section RW
variable {p : Program} {l : Launch} {e : Env} {R : Room} {s : State} {m : MethodId} {args : Array Value} {below : List Frame} {meth : Method} {c : Code} {H H0 : Heap} {locs : List Loc} {cells slots : Nat} {Q : State → Prop}
variable {cc bytes : ByteArray} {pc nL maxL index n : Nat} {ls : Array Slot} {rest st0 : List Value} {D : va_G} {ra : Nat → Nat} {ca : Nat → ClassId} {N N' : sp_N} {O O' : sp_O} {Z Z' : sp_Z} {B B' : sp_B} {Ts ws : List Cond} {y : MethodName} {ret : Option FieldType} {rm : Room} {As : List Value}
/-- a call, inside the reference, of a method that writes and answers v -/
theorem rf_callwi {v : Int32} (S : CallFix p m c cc nL s args Ts rn_M) (hM : Met l y ws rm (va_Pc (.ref (ra 0) :: As) (rf_U D ra ca N O Z B)) (va_Qi (fun r (_ : Unit) => r = v) (fun _ t => rf_U D ra ca N' O' Z' B' t) (rf_A ra)) 0 0 (rf_A ra)) (cw : CallW R s args rn_M rn_M index y bytes maxL ret ws rm 0 0 n) (hK : va_K D vw_cl (rf_T ca) s) (hP : va_P D vw_cl (rf_W ra ca N O Z B) H) (hS : va_S (rf_A ra) H0 H locs) (hn : As.length = n) (hsize : ls.size = nL) (hstack : st0 = As.reverse ++ .ref (ra 0) :: rest) (hW : (rest.map fun v => v.category).sum ≤ 8) (hdg : decode cc pc = .ok (.invokevirtual index, 3)) (hf : cells ≤ R.cells ∧ slots ≤ R.slots)
    (kk : ∀ (H1 : Heap) (locs1 : List Loc), va_P D vw_cl (rf_W ra ca N' O' Z' B') H1 → va_S (rf_A ra) H0 H1 locs1 → W p l e R s m args below meth c H1 locs1 cells slots Q (F0 m (pc + 3) ls (.int v :: rest))) : W p l e R s m args below meth c H locs cells slots Q (F0 m pc ls st0) := by
  subst hstack
  exact va_calli (va_runV S hM cw ⟨rf_blind D ra ca N O Z B _, va_recv hK hP (ci := 4) rfl (q0 := 0) rfl, fun U hU hW => ⟨rfl, by rw [hU]; exact hP, va_K.moved hW.alike hK⟩⟩ rfl hn hsize rfl (lv_room hW) hdg hf) hS (fun q _ h => h) (fun q h => h) (fun r u t H1 locs1 ht hvm hr hB hz hk hS1 => by subst hr; exact kk H1 locs1 (by rw [← ht]; exact hB.1) hS1)
theorem rf_callwv (S : CallFix p m c cc nL s args Ts rn_M) (hM : Met l y ws rm (va_Pc (.ref (ra 0) :: As) (rf_U D ra ca N O Z B)) (va_Qv (fun (_ : Unit) => True) (fun _ t => rf_U D ra ca N' O' Z' B' t) (rf_A ra)) 0 0 (rf_A ra)) (cw : CallW R s args rn_M rn_M index y bytes maxL ret ws rm 0 0 n) (hK : va_K D vw_cl (rf_T ca) s) (hP : va_P D vw_cl (rf_W ra ca N O Z B) H) (hS : va_S (rf_A ra) H0 H locs) (hn : As.length = n) (hsize : ls.size = nL) (hstack : st0 = As.reverse ++ .ref (ra 0) :: rest) (hW : (rest.map fun v => v.category).sum ≤ 8) (hdg : decode cc pc = .ok (.invokevirtual index, 3)) (hf : cells ≤ R.cells ∧ slots ≤ R.slots)
    (kk : ∀ (H1 : Heap) (locs1 : List Loc), va_P D vw_cl (rf_W ra ca N' O' Z' B') H1 → va_S (rf_A ra) H0 H1 locs1 → W p l e R s m args below meth c H1 locs1 cells slots Q (F0 m (pc + 3) ls rest)) : W p l e R s m args below meth c H locs cells slots Q (F0 m pc ls st0) := by
  subst hstack
  exact va_callv (va_runV S hM cw ⟨rf_blind D ra ca N O Z B _, va_recv hK hP (ci := 4) rfl (q0 := 0) rfl, fun U hU hW => ⟨rfl, by rw [hU]; exact hP, va_K.moved hW.alike hK⟩⟩ rfl hn hsize rfl (lv_room hW) hdg hf) hS (fun q _ h => h) (fun q h => h) (fun u t H1 locs1 ht hvm hr hB hz hk hS1 => kk H1 locs1 (by rw [← ht]; exact hB.1) hS1)
end RW
