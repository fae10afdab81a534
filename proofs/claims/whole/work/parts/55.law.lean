/-! Part 55: pieces of the law's body. -/
section LB
variable {p : Program} {l : Launch} {e : Env} {R : Room} {s : State} {m : MethodId} {args : Array Value} {below : List Frame} {meth : Method} {c : Code} {H : Heap} {locs : List Loc} {cells slots : Nat} {Q : State → Prop} {ls : Array Slot} {st : List Value} {A : Nat → Prop} {H0 : Heap} {b L i k pc : Nat} {xs : Nat → Int32} {lv : List (Nat × Value)}
theorem nI_plus (a b : Nat) : nI a + nI b = nI (a + b) := (Int32.ofNat_add a b).symm
/-- script[i + k] -/
theorem lw_ld (hx : p.tables.exec = Jvm.exec) (hb : c.code = code) (hX : va_X b L xs s H0) (hbl : b < H0.size) (hbA : ¬ A b) (hS : va_S A H0 H locs) (hl : lv_has ls 4 lv) {q0 q3 : Nat} (h0 : lv[q0]? = some (0, .ref b)) (h3 : lv[q3]? = some (3, .int (nI i))) (hi : i + k < L) (hL : L < 2 ^ 31) {n : Int} (hn : Int32.ofInt n = nI k) (d0 : decode code pc = .ok (.aload_n 0, 1)) (d1 : decode code (pc + 1) = .ok (.iload_n 3, 1)) (d2 : decode code (pc + 1 + 1) = .ok (.iconst n, 1)) (d3 : decode code (pc + 1 + 1 + 1) = .ok (.iadd, 1)) (d4 : decode code (pc + 1 + 1 + 1 + 1) = .ok (.iaload, 1))
    (kk : W p l e R s m args below meth c H locs cells slots Q (F0 m (pc + 1 + 1 + 1 + 1 + 1) ls (.int (xs (i + k)) :: st))) : W p l e R s m args below meth c H locs cells slots Q (F0 m pc ls st) := by
  refine lv_aload_n hx hb d0 rfl (lv_at hl q0 h0) ?_
  refine lv_iload_n hx hb d1 rfl (lv_at hl q3 h3) ?_
  refine lv_iconst (v := nI k) hx hb d2 hn ?_
  refine lv_iadd hx hb d3 ?_
  rw [nI_plus]
  refine va_sld hx hb hX hbl hbA hS (vp_in_nI hi hL) d4 ?_
  rw [nI_clamp (by omega)]
  exact kk
/-- x != 0 -/
theorem lw_bool (hx : p.tables.exec = Jvm.exec) (hb : c.code = code) {x : Int32} (d0 : decode code pc = .ok (.ifCond .eq 7, 3)) (d1 : decode code (pc + 3) = .ok (.iconst 1, 1)) (d2 : decode code (pc + 3 + 1) = .ok (.goto 4, 3)) (d3 : decode code (pc + 7) = .ok (.iconst 0, 1))
    (kk : W p l e R s m args below meth c H locs cells slots Q (F0 m (pc + 8) ls (.int (bd_b (!decide (x = 0))) :: st))) : W p l e R s m args below meth c H locs cells slots Q (F0 m pc ls (.int x :: st)) := by
  refine lv_if_eq (tgt := pc + 7) hx hb d0 (by omega) (fun h => ?_) (fun h => ?_)
  · rw [decide_eq_true h] at kk
    refine lv_iconst (v := nI 0) hx hb d3 (by decide) ?_
    exact kk
  · rw [decide_eq_false h] at kk
    refine lv_iconst (v := nI 1) hx hb d1 (by decide) ?_
    refine lv_goto (tgt := pc + 8) hx hb d2 (by omega) ?_
    exact kk
/-- a long out of two ints -/
def lw_lg (x y : Int32) : Int64 := (x.toInt64 <<< ((nI 32).toInt64 &&& 63)) ||| (y.toInt64 &&& 4294967295)
end LB
/-- references of live cells lead to live cells -/
def cl_F (ks : List Nat) (F : sp_O) : Prop := ∀ k, k ∈ ks → ∀ f z, F k f = some z → z ∈ ks
/-- what holds between two turns of the law: both objects, apart, related -/
def lw_I (s : State) (D : va_G) (H : Heap) (a0 m0 : Nat) : Prop := ∃ (ks : List Nat) (ad : Nat → Nat) (cb : Nat → ClassId) (ra : Nat → Nat) (ca : Nat → ClassId) (M : sp_N) (X : sp_B) (F : sp_O) (G : sp_Z) (N : sp_N) (O : sp_O) (Z : sp_Z) (B : sp_B), ad 0 = a0 ∧ ra 0 = m0 ∧ va_K D vw_cl (cw_T cb) s ∧ va_K D vw_cl (rf_T ca) s ∧ va_P D vw_cl (cw_W ks ad cb M X F G) H ∧ va_P D vw_cl (rf_W ra ca N O Z B) H ∧ cw_J ks ad ∧ rf_J ra ∧ (∀ k, k ∈ ks → s.heap.size ≤ ad k) ∧ (∀ f, f ∈ rf_u → s.heap.size ≤ ra f) ∧ (∀ k f, k ∈ ks → f ∈ rf_u → ad k ≠ ra f) ∧ cl_k ks N ∧ cl_k2 ks N ∧ cl_R M X F G N O Z B ∧ cl_F ks F
/-- the reference's cells lie at its addresses -/
theorem rf_get {ra : Nat → Nat} {ca : Nat → ClassId} {N : sp_N} {O : sp_O} {Z : sp_Z} {B : sp_B} {k : Nat} {q : Nat × va_E} (h : (rf_W ra ca N O Z B)[k]? = some q) (hJ : rf_J ra) : rf_A ra q.1 := (rf_D hJ ca N O Z B).2 k q h
theorem cw_get2 {ks : List Nat} {ad : Nat → Nat} {cb : Nat → ClassId} {M : sp_N} {X : sp_B} {F : sp_O} {G : sp_Z} {k : Nat} {q : Nat × va_E} (h : (cw_W ks ad cb M X F G)[k]? = some q) : cw_A ks ad q.1 := by
  unfold cw_W at h
  rw [List.getElem?_map] at h
  cases hk : ks[k]? with
  | none => rw [hk] at h; cases h
  | some j =>
    rw [hk] at h
    cases h
    exact ⟨j, List.mem_of_getElem? hk, rfl⟩
theorem lw_ap1 {ks : List Nat} {ad ra : Nat → Nat} {ca : Nat → ClassId} {N : sp_N} {O : sp_O} {Z : sp_Z} {B : sp_B} (hap : ∀ k f, k ∈ ks → f ∈ rf_u → ad k ≠ ra f) (hJ : rf_J ra) : ∀ (k : Nat) (q : Nat × va_E), (rf_W ra ca N O Z B)[k]? = some q → ¬ cw_A ks ad q.1 := by
  intro k q h ⟨j, hj, hq⟩
  obtain ⟨f, hf, hq2⟩ := rf_get h hJ
  exact hap j f hj hf (hq.symm.trans hq2)
theorem lw_ap2 {ks : List Nat} {ad ra : Nat → Nat} {cb : Nat → ClassId} {M : sp_N} {X : sp_B} {F : sp_O} {G : sp_Z} (hap : ∀ k f, k ∈ ks → f ∈ rf_u → ad k ≠ ra f) : ∀ (k : Nat) (q : Nat × va_E), (cw_W ks ad cb M X F G)[k]? = some q → ¬ rf_A ra q.1 := by
  intro k q h ⟨f, hf, hq⟩
  obtain ⟨j, hj, hq2⟩ := cw_get2 h
  exact hap j f hj hf (hq2.symm.trans hq)
