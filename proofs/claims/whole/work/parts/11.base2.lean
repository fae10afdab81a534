/-! Part 11: further branches; lists of locals. -/
section BR
variable {p : Program} {l : Launch} {e : Env} {R : Room} {s : State} {m : MethodId} {args : Array Value} {below : List Frame} {meth : Method} {c : Code} {H : Heap} {locs : List Loc} {cells slots : Nat} {Q : State → Prop}
variable {cc : ByteArray} {pc : Nat} {ls : Array Slot} {rest : List Value}
theorem bq_oeq (hx : p.tables.exec = Jvm.exec) (hb : c.code = cc) {o : Option Nat} {g : Nat} (ho : ∀ k, o = some k → k < 2 ^ 31) (hg : g < 2 ^ 31) {off : Int} {tgt : Nat} (hdg : decode cc pc = .ok (.if_icmp .eq off, 3)) (ht : (pc : Int) + off = (tgt : Int)) (kt : o = some g → W p l e R s m args below meth c H locs cells slots Q (F0 m tgt ls rest)) (kf : o ≠ some g → W p l e R s m args below meth c H locs cells slots Q (F0 m (pc + 3) ls rest)) : W p l e R s m args below meth c H locs cells slots Q (F0 m pc ls (.int (nI g) :: .int (bd_o o) :: rest)) := by
  exact lv_icmp_eq hx hb hdg ht (fun h => kt ((bd_o_eq ho hg).mp h)) (fun h => kf (fun q => h ((bd_o_eq ho hg).mpr q)))
theorem bq_lgt (hx : p.tables.exec = Jvm.exec) (hb : c.code = cc) {x y : Int64} {off : Int} {tgt : Nat} (hdg : decode cc pc = .ok (.ifCond .gt off, 3)) (ht : (pc : Int) + off = (tgt : Int)) (kt : y < x → W p l e R s m args below meth c H locs cells slots Q (F0 m tgt ls rest)) (kf : x ≤ y → W p l e R s m args below meth c H locs cells slots Q (F0 m (pc + 3) ls rest)) : W p l e R s m args below meth c H locs cells slots Q (F0 m pc ls (.int (lg_cmp x y) :: rest)) := by
  exact lv_if_gt hx hb hdg ht (fun h => kt ((lg_cmp_gt x y).mp h)) (fun h => kf (Int64.not_lt.mp (fun q => h ((lg_cmp_gt x y).mpr q))))
theorem bq_lge (hx : p.tables.exec = Jvm.exec) (hb : c.code = cc) {x y : Int64} {off : Int} {tgt : Nat} (hdg : decode cc pc = .ok (.ifCond .ge off, 3)) (ht : (pc : Int) + off = (tgt : Int)) (kt : y ≤ x → W p l e R s m args below meth c H locs cells slots Q (F0 m tgt ls rest)) (kf : x < y → W p l e R s m args below meth c H locs cells slots Q (F0 m (pc + 3) ls rest)) : W p l e R s m args below meth c H locs cells slots Q (F0 m pc ls (.int (lg_cmp x y) :: rest)) := by
  exact lv_if_ge hx hb hdg ht (fun h => kt ((lg_cmp_ge x y).mp h)) (fun h => kf (Int64.not_le.mp (fun q => h ((lg_cmp_ge x y).mpr q))))
theorem bq_lle (hx : p.tables.exec = Jvm.exec) (hb : c.code = cc) {x y : Int64} {off : Int} {tgt : Nat} (hdg : decode cc pc = .ok (.ifCond .le off, 3)) (ht : (pc : Int) + off = (tgt : Int)) (kt : x ≤ y → W p l e R s m args below meth c H locs cells slots Q (F0 m tgt ls rest)) (kf : y < x → W p l e R s m args below meth c H locs cells slots Q (F0 m (pc + 3) ls rest)) : W p l e R s m args below meth c H locs cells slots Q (F0 m pc ls (.int (lg_cmp x y) :: rest)) := by
  exact lv_if_le hx hb hdg ht (fun h => kt ((lg_cmp_le x y).mp h)) (fun h => kf (Int64.not_le.mp (fun q => h ((lg_cmp_le x y).mpr q))))
theorem bq_llt (hx : p.tables.exec = Jvm.exec) (hb : c.code = cc) {x y : Int64} {off : Int} {tgt : Nat} (hdg : decode cc pc = .ok (.ifCond .lt off, 3)) (ht : (pc : Int) + off = (tgt : Int)) (kt : x < y → W p l e R s m args below meth c H locs cells slots Q (F0 m tgt ls rest)) (kf : y ≤ x → W p l e R s m args below meth c H locs cells slots Q (F0 m (pc + 3) ls rest)) : W p l e R s m args below meth c H locs cells slots Q (F0 m pc ls (.int (lg_cmp x y) :: rest)) := by
  exact lv_if_lt hx hb hdg ht (fun h => kt ((lg_cmp_lt x y).mp h)) (fun h => kf (Int64.not_lt.mp (fun q => h ((lg_cmp_lt x y).mpr q))))
end BR
theorem bd_ne {o : Option Nat} (h : o ≠ none) : ∃ b, o = some b := Option.ne_none_iff_exists'.mp h
theorem sp_r_lt (N : sp_N) (a : Nat) : sp_r N a < 3 := by
  unfold sp_r
  split
  · omega
  · split <;> omega
theorem sp_h_lt {N : sp_N} {O : sp_O} {B : sp_B} {n b : Nat} (h : sp_h N O B n = some b) : b < n := (sp_h_some h).1
theorem sp_d_lt {N : sp_N} {Z : sp_Z} {b : Nat} : ∀ {n : Nat}, sp_d N Z n = some b → b < n
  | 0, h => by cases h
  | n + 1, h => by
    unfold sp_d at h
    split at h
    · cases h; omega
    · have := sp_d_lt h; omega
/-- the rank that goes with the best so far -/
def sp_rk (N : sp_N) (o : Option Nat) : Int32 := match o with
  | none => -1
  | some b => nI (sp_r N (N 7 b))
theorem bd_in_4 {q : Int32} (h1 : ¬ q < 0) (h2 : q ≤ nI 3) : bd_in q 4 = true := by
  have h3 : ¬ q.toInt < 0 := fun z => h1 (Int32.lt_iff_toInt_lt.mpr (by simpa using z))
  have h4 := Int32.le_iff_toInt_le.mp h2
  rw [nI_toInt (by decide)] at h4
  simp only [bd_in, decide_eq_true_eq]
  omega
theorem bd_in_5 {q : Int32} (h2 : ¬ q ≤ nI 3) : bd_in q 4 = false := by
  have h4 : ¬ q.toInt ≤ 3 := fun z => h2 (Int32.le_iff_toInt_le.mpr (by rw [nI_toInt (by decide)]; exact z))
  simp only [bd_in, decide_eq_false_iff_not]
  omega
/-- what the public readers answer -/
def am_queued (N : sp_N) (q : Int32) : Int32 := if bd_in q (N 1 0) = true then nI (sp_q N q.toNatClampNeg) else -1
def am_through (N : sp_N) (q : Int32) : Int32 := if bd_in q (N 1 0) = true then nI (sp_p N q.toNatClampNeg) else -1
def am_peak (N : sp_N) (q : Int32) : Int32 := if bd_in q (N 1 0) = true then nI (N 5 q.toNatClampNeg) else -1
def am_count (N : sp_N) (O : sp_O) (g : Int32) : Int32 := if bd_in g 4 = true then nI (sp_g N O g.toNatClampNeg) else -2
def am_state (N : sp_N) (B : sp_B) (t : Int32) : Int32 := if bd_in t (N 6 0) = true then nI (N 8 t.toNatClampNeg + (if B 15 t.toNatClampNeg = true then 8 else 0)) else -3
def sp_x (N : sp_N) (B : sp_B) (c q : Nat) (bar : Bool) : Bool := sp_a (fun x => decide (3 ≤ x) && sp_l N q x && sp_l N (N 7 c) x && (decide (N 3 x = 1) || (B 14 c && decide (N 7 c = x)) || (bar && decide (x = q)))) (N 1 0)
