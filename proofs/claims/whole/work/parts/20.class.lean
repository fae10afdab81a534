/-! Part 20: the class's world. Keys: 0 the object, 1 to 3 its arrays (queues, blocks, groups), 4 + g a group, 8 + j a queue, 20 + t a block. M: numbers, X: booleans, F: references (as keys), G: longs, each by key and slot; ad: the address of a key; ks: the keys that there are. -/
abbrev cw_fM (ad : Nat → Nat) (mm : Nat → Nat) (ff : Nat → Option Nat) (gg : Nat → Int64) : List Value := [.int (nI (mm 0)), va_rf ((ff 1).map ad), va_rf ((ff 2).map ad), va_rf ((ff 3).map ad), .int (nI (mm 4)), .int (nI (mm 5)), .int (nI (mm 6)), .int (nI (mm 7)), .long (gg 8)]
abbrev cw_fG (mm : Nat → Nat) : List Value := [.int (nI (mm 0)), .int (nI (mm 1))]
abbrev cw_fQ (ad : Nat → Nat) (mm : Nat → Nat) (xx : Nat → Bool) (ff : Nat → Option Nat) : List Value := [.int (nI (mm 0)), .int (nI (mm 1)), va_rf ((ff 2).map ad), .int (nI (mm 3)), va_rf ((ff 4).map ad), va_rf ((ff 5).map ad), .int (nI (mm 6)), .int (nI (mm 7)), .int (nI (mm 8)), .int (bd_b (xx 9))]
abbrev cw_fB (ad : Nat → Nat) (mm : Nat → Nat) (xx : Nat → Bool) (ff : Nat → Option Nat) (gg : Nat → Int64) : List Value := [.int (nI (mm 0)), va_rf ((ff 1).map ad), .int (bd_b (xx 2)), .int (nI (mm 3)), .int (bd_b (xx 4)), va_rf ((ff 5).map ad), va_rf ((ff 6).map ad), va_rf ((ff 7).map ad), .long (gg 8), .int (nI (mm 9)), va_rf ((ff 10).map ad)]
def cw_n (k : Nat) : Nat := if k = 1 then 12 else if k = 2 then 160 else 4
theorem cw_n_lt (k : Nat) : cw_n k < 2 ^ 31 := by
  unfold cw_n
  by_cases h1 : k = 1
  · simp [h1]
  · by_cases h2 : k = 2 <;> simp [h1, h2]
/-- the cell of a key, out of its own row of each map -/
def cw_C (ad : Nat → Nat) (ca : Nat → ClassId) (k : Nat) (mm : Nat → Nat) (xx : Nat → Bool) (ff : Nat → Option Nat) (gg : Nat → Int64) : va_E :=
  if k = 0 then .inr (3, cw_fM ad mm ff gg)
  else if k < 4 then .inl (ca k, cw_n k, .inr (.inr (.inr (.inr (fun j => (ff j).map ad)))))
  else if k < 8 then .inr (1, cw_fG mm)
  else if k < 20 then .inr (2, cw_fQ ad mm xx ff)
  else .inr (0, cw_fB ad mm xx ff gg)
def cw_W (ks : List Nat) (ad : Nat → Nat) (ca : Nat → ClassId) (M : sp_N) (X : sp_B) (F : sp_O) (G : sp_Z) : va_W := ks.map (fun k => (ad k, cw_C ad ca k (M k) (X k) (F k) (G k)))
theorem cw_C0 (ad : Nat → Nat) (ca : Nat → ClassId) (mm : Nat → Nat) (xx : Nat → Bool) (ff : Nat → Option Nat) (gg : Nat → Int64) : cw_C ad ca 0 mm xx ff gg = .inr (3, cw_fM ad mm ff gg) := rfl
theorem cw_CA {k : Nat} (h0 : 0 < k) (h : k < 4) (ad : Nat → Nat) (ca : Nat → ClassId) (mm : Nat → Nat) (xx : Nat → Bool) (ff : Nat → Option Nat) (gg : Nat → Int64) : cw_C ad ca k mm xx ff gg = .inl (ca k, cw_n k, .inr (.inr (.inr (.inr (fun j => (ff j).map ad))))) := by
  unfold cw_C
  rw [if_neg (by omega), if_pos h]
theorem cw_CG {g : Nat} (h : g < 4) (ad : Nat → Nat) (ca : Nat → ClassId) (mm : Nat → Nat) (xx : Nat → Bool) (ff : Nat → Option Nat) (gg : Nat → Int64) : cw_C ad ca (4 + g) mm xx ff gg = .inr (1, cw_fG mm) := by
  unfold cw_C
  rw [if_neg (by omega), if_neg (by omega), if_pos (by omega)]
theorem cw_CQ {j : Nat} (h : j < 12) (ad : Nat → Nat) (ca : Nat → ClassId) (mm : Nat → Nat) (xx : Nat → Bool) (ff : Nat → Option Nat) (gg : Nat → Int64) : cw_C ad ca (8 + j) mm xx ff gg = .inr (2, cw_fQ ad mm xx ff) := by
  unfold cw_C
  rw [if_neg (by omega), if_neg (by omega), if_neg (by omega), if_pos (by omega)]
theorem cw_CB (t : Nat) (ad : Nat → Nat) (ca : Nat → ClassId) (mm : Nat → Nat) (xx : Nat → Bool) (ff : Nat → Option Nat) (gg : Nat → Int64) : cw_C ad ca (20 + t) mm xx ff gg = .inr (0, cw_fB ad mm xx ff gg) := by
  unfold cw_C
  rw [if_neg (by omega), if_neg (by omega), if_neg (by omega), if_neg (by omega)]
theorem cw_get {ks : List Nat} {ad : Nat → Nat} {ca : Nat → ClassId} {M : sp_N} {X : sp_B} {F : sp_O} {G : sp_Z} {i k : Nat} (hp : ks[i]? = some k) : (cw_W ks ad ca M X F G)[i]? = some (ad k, cw_C ad ca k (M k) (X k) (F k) (G k)) := by
  unfold cw_W
  rw [List.getElem?_map, hp]
  rfl
theorem cw_set {A : Nat → Prop} {ks : List Nat} {ad : Nat → Nat} {ca : Nat → ClassId} {M M' : sp_N} {X X' : sp_B} {F F' : sp_O} {G G' : sp_Z} {i k : Nat} (hD : va_D A (cw_W ks ad ca M X F G)) (hp : ks[i]? = some k) (hM : ∀ q, q ≠ k → M' q = M q) (hX : ∀ q, q ≠ k → X' q = X q) (hF : ∀ q, q ≠ k → F' q = F q) (hG : ∀ q, q ≠ k → G' q = G q) : (cw_W ks ad ca M X F G).set i (ad k, cw_C ad ca k (M' k) (X' k) (F' k) (G' k)) = cw_W ks ad ca M' X' F' G' := by
  have hl : i < (cw_W ks ad ca M X F G).length := (List.getElem?_eq_some_iff.mp (cw_get hp)).1
  apply List.ext_getElem?
  intro j
  by_cases hj : j = i
  · subst hj
    rw [List.getElem?_set_self hl, cw_get hp]
  · rw [List.getElem?_set_ne (Ne.symm hj)]
    cases hq : ks[j]? with
    | none =>
      unfold cw_W
      rw [List.getElem?_map, List.getElem?_map, hq]
      rfl
    | some q =>
      have hqk : q ≠ k := by
        intro h
        subst h
        exact hj (hD.1 j i _ _ (cw_get hq) (cw_get hp) rfl)
      rw [cw_get hq, cw_get hq, hM q hqk, hX q hqk, hF q hqk, hG q hqk]

abbrev cw_T (ca : Nat → ClassId) : List (ClassId × FieldType) := [(ca 1, .object rn_Q), (ca 2, .object rn_B), (ca 3, .object rn_G)]
def cw_U (D : va_G) (ks : List Nat) (ad : Nat → Nat) (ca : Nat → ClassId) (M : sp_N) (X : sp_B) (F : sp_O) (G : sp_Z) (U : State) : Prop := va_P D vw_cl (cw_W ks ad ca M X F G) U.heap ∧ va_K D vw_cl (cw_T ca) U
theorem cw_blind (D : va_G) (ks : List Nat) (ad : Nat → Nat) (ca : Nat → ClassId) (M : sp_N) (X : sp_B) (F : sp_O) (G : sp_Z) (As : List Value) : FrameBlind (va_Pc As (cw_U D ks ad ca M X F G)) := fun a U g mk q => ⟨q.1, q.2.1, va_K.moved (u := U) (U := U.calling g mk a) (Vm.Alike.refl U.vm) q.2.2⟩
/-- the addresses of the keys are apart -/
def cw_J (ks : List Nat) (ad : Nat → Nat) : Prop := ∀ i j a b : Nat, ks[i]? = some a → ks[j]? = some b → ad a = ad b → i = j
def cw_A (ks : List Nat) (ad : Nat → Nat) : Nat → Prop := fun q => ∃ k, k ∈ ks ∧ q = ad k
theorem cw_key {ks : List Nat} {ad : Nat → Nat} {ca : Nat → ClassId} {M : sp_N} {X : sp_B} {F : sp_O} {G : sp_Z} {i : Nat} {q : Nat × va_E} (h : (cw_W ks ad ca M X F G)[i]? = some q) : ∃ k, ks[i]? = some k ∧ q = (ad k, cw_C ad ca k (M k) (X k) (F k) (G k)) := by
  unfold cw_W at h
  rw [List.getElem?_map] at h
  cases hk : ks[i]? with
  | none => rw [hk] at h; cases h
  | some k => rw [hk] at h; exact ⟨k, rfl, (Option.some.inj h).symm⟩
theorem cw_D {ks : List Nat} {ad : Nat → Nat} (hJ : cw_J ks ad) (ca : Nat → ClassId) (M : sp_N) (X : sp_B) (F : sp_O) (G : sp_Z) : va_D (cw_A ks ad) (cw_W ks ad ca M X F G) := by
  refine ⟨fun i j x y hi hj hxy => ?_, fun k q hk => ?_⟩
  · obtain ⟨a, a1, rfl⟩ := cw_key hi
    obtain ⟨b, b1, rfl⟩ := cw_key hj
    exact hJ i j a b a1 b1 hxy
  · obtain ⟨a, a1, rfl⟩ := cw_key hk
    exact ⟨a, List.mem_of_getElem? a1, rfl⟩
theorem cw_inj {ks : List Nat} {ad : Nat → Nat} (hJ : cw_J ks ad) {a b : Nat} (ha : a ∈ ks) (hb : b ∈ ks) (h : ad a = ad b) : a = b := by
  obtain ⟨i, hi⟩ := List.getElem?_of_mem ha
  obtain ⟨j, hj⟩ := List.getElem?_of_mem hb
  have := hJ i j a b hi hj h
  subst this
  exact Option.some.inj (hi.symm.trans hj)
section CW
variable {p : Program} {l : Launch} {e : Env} {R : Room} {s : State} {m : MethodId} {args : Array Value} {below : List Frame} {meth : Method} {c : Code} {H H0 : Heap} {locs : List Loc} {cells slots : Nat} {Q : State → Prop}
variable {cc bytes : ByteArray} {pc nL maxL index n : Nat} {ls : Array Slot} {rest st0 : List Value} {D : va_G} {ks : List Nat} {ad : Nat → Nat} {ca : Nat → ClassId} {M : sp_N} {X : sp_B} {F : sp_O} {G : sp_Z} {Ts ws : List Cond} {y : MethodName} {ret : Option FieldType} {rm : Room} {As : List Value} {tys : List (ClassId × FieldType)} {A : Nat → Prop} {own C : String} {T : u_T} {NF ci k f : Nat} {fs : List Value}
/-- a field is read -/
theorem cw_get1 (hx : p.tables.exec = Jvm.exec) (hb : c.code = cc) (hts : ∀ w ∈ Ts, w.before args s = true) (hin : ∀ w ∈ u_ws C T NF, w ∈ Ts) (hown : s.vm.findClass own = some m.cls) (hK : va_K D vw_cl tys s) (hP : va_P D vw_cl (cw_W ks ad ca M X F G) H) (hk : k ∈ ks) (hE : cw_C ad ca k (M k) (X k) (F k) (G k) = .inr (ci, fs)) (hc : vw_cl[ci]? = some (C, T, NF)) (f : Nat) (hf : f < NF) (hlink : (Cond.fieldLink own index C (T f).2.1 (T f).2.2.1).before args s = true) (hown2 : (T f).1 = C) {v : Value} (hv : fs[f]? = some v) (hdg : decode cc pc = .ok (.getfield index, 3))
    (kk : W p l e R s m args below meth c H locs cells slots Q (F0 m (pc + 3) ls (v :: rest))) : W p l e R s m args below meth c H locs cells slots Q (F0 m pc ls (.ref (ad k) :: rest)) := by
  obtain ⟨i, hi⟩ := List.getElem?_of_mem hk
  exact va_get hx hb hts hin hown hK hP i ((cw_get hi).trans (by rw [hE])) hc f hf hlink (fun x h => by rw [hown2] at h; exact h) hv hdg kk
/-- a reference that may be null is read -/
theorem cw_getr (hx : p.tables.exec = Jvm.exec) (hb : c.code = cc) (hts : ∀ w ∈ Ts, w.before args s = true) (hin : ∀ w ∈ u_ws C T NF, w ∈ Ts) (hown : s.vm.findClass own = some m.cls) (hK : va_K D vw_cl tys s) (hP : va_P D vw_cl (cw_W ks ad ca M X F G) H) (hk : k ∈ ks) (hE : cw_C ad ca k (M k) (X k) (F k) (G k) = .inr (ci, fs)) (hc : vw_cl[ci]? = some (C, T, NF)) (f : Nat) (hf : f < NF) (hlink : (Cond.fieldLink own index C (T f).2.1 (T f).2.2.1).before args s = true) (hown2 : (T f).1 = C) (hv : fs[f]? = some (va_rf ((F k f).map ad))) (hdg : decode cc pc = .ok (.getfield index, 3))
    (kn : F k f = none → W p l e R s m args below meth c H locs cells slots Q (F0 m (pc + 3) ls (.null :: rest))) (kr : ∀ k', F k f = some k' → W p l e R s m args below meth c H locs cells slots Q (F0 m (pc + 3) ls (.ref (ad k') :: rest))) : W p l e R s m args below meth c H locs cells slots Q (F0 m pc ls (.ref (ad k) :: rest)) := by
  refine cw_get1 hx hb hts hin hown hK hP hk hE hc f hf hlink hown2 hv hdg ?_
  cases h : F k f with
  | none => exact kn h
  | some k' => exact kr k' h
/-- a reference that is known is read -/
theorem cw_getk (hx : p.tables.exec = Jvm.exec) (hb : c.code = cc) (hts : ∀ w ∈ Ts, w.before args s = true) (hin : ∀ w ∈ u_ws C T NF, w ∈ Ts) (hown : s.vm.findClass own = some m.cls) (hK : va_K D vw_cl tys s) (hP : va_P D vw_cl (cw_W ks ad ca M X F G) H) (hk : k ∈ ks) (hE : cw_C ad ca k (M k) (X k) (F k) (G k) = .inr (ci, fs)) (hc : vw_cl[ci]? = some (C, T, NF)) (f : Nat) (hf : f < NF) (hlink : (Cond.fieldLink own index C (T f).2.1 (T f).2.2.1).before args s = true) (hown2 : (T f).1 = C) (hv : fs[f]? = some (va_rf ((F k f).map ad))) {k' : Nat} (hFk : F k f = some k') (hdg : decode cc pc = .ok (.getfield index, 3))
    (kk : W p l e R s m args below meth c H locs cells slots Q (F0 m (pc + 3) ls (.ref (ad k') :: rest))) : W p l e R s m args below meth c H locs cells slots Q (F0 m pc ls (.ref (ad k) :: rest)) :=
  cw_getr hx hb hts hin hown hK hP hk hE hc f hf hlink hown2 hv hdg (fun h => by rw [hFk] at h; cases h) (fun k9 h => by rw [hFk] at h; cases h; exact kk)
theorem cw_getn (hx : p.tables.exec = Jvm.exec) (hb : c.code = cc) (hts : ∀ w ∈ Ts, w.before args s = true) (hin : ∀ w ∈ u_ws C T NF, w ∈ Ts) (hown : s.vm.findClass own = some m.cls) (hK : va_K D vw_cl tys s) (hP : va_P D vw_cl (cw_W ks ad ca M X F G) H) (hk : k ∈ ks) (hE : cw_C ad ca k (M k) (X k) (F k) (G k) = .inr (ci, fs)) (hc : vw_cl[ci]? = some (C, T, NF)) (f : Nat) (hf : f < NF) (hlink : (Cond.fieldLink own index C (T f).2.1 (T f).2.2.1).before args s = true) (hown2 : (T f).1 = C) (hv : fs[f]? = some (va_rf ((F k f).map ad))) (hFk : F k f = none) (hdg : decode cc pc = .ok (.getfield index, 3))
    (kk : W p l e R s m args below meth c H locs cells slots Q (F0 m (pc + 3) ls (.null :: rest))) : W p l e R s m args below meth c H locs cells slots Q (F0 m pc ls (.ref (ad k) :: rest)) :=
  cw_getr hx hb hts hin hown hK hP hk hE hc f hf hlink hown2 hv hdg (fun _ => kk) (fun k9 h => by rw [hFk] at h; cases h)
/-- a field is written: what the cell is then, by the maps that came of it -/
theorem cw_put1 (hx : p.tables.exec = Jvm.exec) (hb : c.code = cc) (hts : ∀ w ∈ Ts, w.before args s = true) (hin : ∀ w ∈ u_ws C T NF, w ∈ Ts) (ty0 : Nat → FieldType) (hty : ∀ k, k < NF → parseFieldDescriptor (T k).2.2.1 = some (ty0 k)) (hnm : ∀ a, a < NF → ∀ b, b < NF → a ≠ b → (T a).2.1 ≠ (T b).2.1) (hown : s.vm.findClass own = some m.cls) (hK : va_K D vw_cl tys s) (hP : va_P D vw_cl (cw_W ks ad ca M X F G) H) (hD : va_D A (cw_W ks ad ca M X F G)) (hS : va_S A H0 H locs) (hk : k ∈ ks) (hE : cw_C ad ca k (M k) (X k) (F k) (G k) = .inr (ci, fs)) (hc : vw_cl[ci]? = some (C, T, NF)) (f : Nat) (hf : f < NF) (hlink : (Cond.fieldLink own index C (T f).2.1 (T f).2.2.1).before args s = true) (hown2 : (T f).1 = C) (hfin : (T f).2.2.2 = false) {ty : FieldType} {v : Value} (hd : parseFieldDescriptor (T f).2.2.1 = some ty) (hn : narrow ty v = v) (hfit : fits ty v = true) (hl : f < fs.length) {M' : sp_N} {X' : sp_B} {F' : sp_O} {G' : sp_Z} (hM : ∀ q, q ≠ k → M' q = M q) (hX : ∀ q, q ≠ k → X' q = X q) (hF : ∀ q, q ≠ k → F' q = F q) (hG : ∀ q, q ≠ k → G' q = G q) (hE' : cw_C ad ca k (M' k) (X' k) (F' k) (G' k) = .inr (ci, fs.set f v)) (hdg : decode cc pc = .ok (.putfield index, 3))
    (kk : ∀ (H1 : Heap) (locs1 : List Loc), va_P D vw_cl (cw_W ks ad ca M' X' F' G') H1 → va_S A H0 H1 locs1 → W p l e R s m args below meth c H1 locs1 cells slots Q (F0 m (pc + 3) ls rest)) : W p l e R s m args below meth c H locs cells slots Q (F0 m pc ls (v :: .ref (ad k) :: rest)) := by
  obtain ⟨i, hi⟩ := List.getElem?_of_mem hk
  refine va_put hx hb hts hin ty0 hty hnm hown hK hP hD hS i ((cw_get hi).trans (by rw [hE])) hc f hf hlink (fun x h => by rw [hown2] at h; exact h) hfin hd hn hfit hl hdg (fun H1 locs1 h1 _ h3 => ?_)
  rw [← hE', cw_set hD hi hM hX hF hG] at h1
  exact kk H1 locs1 h1 h3
theorem cw_recv (hK : va_K D vw_cl tys s) (hP : va_P D vw_cl (cw_W ks ad ca M X F G) H) (hk : k ∈ ks) (hE : cw_C ad ca k (M k) (X k) (F k) (G k) = .inr (ci, fs)) (hc : vw_cl[ci]? = some (C, T, NF)) : ∃ cell : Cell, H[ad k]? = some cell ∧ cell.vm.isStatics = false ∧ s.vm.findClass C = some cell.cls := by
  obtain ⟨i, hi⟩ := List.getElem?_of_mem hk
  exact va_recv hK hP hc ((cw_get hi).trans (by rw [hE]))
/-- calls of methods that only read -/
theorem cw_calli {v : Int32} (S : CallFix p m c cc nL s args Ts own) (hM : Met l y ws rm (va_Pc (.ref (ad k) :: As) (cw_U D ks ad ca M X F G)) (vp_Si (fun r => r = v)) 0 0 (fun _ => False)) (cw : CallW R s args own C index y bytes maxL ret ws rm 0 0 n) (hK : va_K D vw_cl (cw_T ca) s) (hP : va_P D vw_cl (cw_W ks ad ca M X F G) H) (hk : k ∈ ks) (hE : cw_C ad ca k (M k) (X k) (F k) (G k) = .inr (ci, fs)) (hc : vw_cl[ci]? = some (C, T, NF)) (hn : As.length = n) (hsize : ls.size = nL) (hstack : st0 = As.reverse ++ .ref (ad k) :: rest) (hW : (rest.map fun v => v.category).sum ≤ 8) (hdg : decode cc pc = .ok (.invokevirtual index, 3)) (hf : cells ≤ R.cells ∧ slots ≤ R.slots)
    (kk : W p l e R s m args below meth c H locs cells slots Q (F0 m (pc + 3) ls (.int v :: rest))) : W p l e R s m args below meth c H locs cells slots Q (F0 m pc ls st0) := by
  subst hstack
  exact vp_callSi (W.runV S hM cw ⟨cw_blind D ks ad ca M X F G _, cw_recv hK hP hk hE hc, fun U hU hW => ⟨rfl, by rw [hU]; exact hP, va_K.moved hW.alike hK⟩⟩ rfl hn hsize rfl (lv_room hW) hdg hf) (fun r hr => by subst hr; exact kk)
theorem cw_callq {o : Option Nat} (S : CallFix p m c cc nL s args Ts own) (hM : Met l y ws rm (va_Pc (.ref (ad k) :: As) (cw_U D ks ad ca M X F G)) (va_Sq (fun r => r = o.map ad)) 0 0 (fun _ => False)) (cw : CallW R s args own C index y bytes maxL ret ws rm 0 0 n) (hK : va_K D vw_cl (cw_T ca) s) (hP : va_P D vw_cl (cw_W ks ad ca M X F G) H) (hk : k ∈ ks) (hE : cw_C ad ca k (M k) (X k) (F k) (G k) = .inr (ci, fs)) (hc : vw_cl[ci]? = some (C, T, NF)) (hn : As.length = n) (hsize : ls.size = nL) (hstack : st0 = As.reverse ++ .ref (ad k) :: rest) (hW : (rest.map fun v => v.category).sum ≤ 8) (hdg : decode cc pc = .ok (.invokevirtual index, 3)) (hf : cells ≤ R.cells ∧ slots ≤ R.slots)
    (kn : o = none → W p l e R s m args below meth c H locs cells slots Q (F0 m (pc + 3) ls (.null :: rest))) (kr : ∀ k', o = some k' → W p l e R s m args below meth c H locs cells slots Q (F0 m (pc + 3) ls (.ref (ad k') :: rest))) : W p l e R s m args below meth c H locs cells slots Q (F0 m pc ls st0) := by
  subst hstack
  refine va_csq (W.runV S hM cw ⟨cw_blind D ks ad ca M X F G _, cw_recv hK hP hk hE hc, fun U hU hW => ⟨rfl, by rw [hU]; exact hP, va_K.moved hW.alike hK⟩⟩ rfl hn hsize rfl (lv_room hW) hdg hf) (fun r hr => ?_)
  subst hr
  cases h : o with
  | none => exact kn h
  | some k' => exact kr k' h
theorem cw_callsi {v : Int32} (S : CallFix p m c cc nL s args Ts own) (hM : Met l y ws rm (va_Pc As (cw_U D ks ad ca M X F G)) (vp_Si (fun r => r = v)) 0 0 (fun _ => False)) (cw : CallB R s args own index y bytes maxL ret ws rm 0 0 n ∧ (Cond.static y).before args s = true) (hK : va_K D vw_cl (cw_T ca) s) (hP : va_P D vw_cl (cw_W ks ad ca M X F G) H) (hn : As.length = n) (hsize : ls.size = nL) (hstack : st0 = As.reverse ++ rest) (hW : (rest.map fun v => v.category).sum ≤ 8) (hdg : decode cc pc = .ok (.invokestatic index, 3)) (hf : cells ≤ R.cells ∧ slots ≤ R.slots)
    (kk : W p l e R s m args below meth c H locs cells slots Q (F0 m (pc + 3) ls (.int v :: rest))) : W p l e R s m args below meth c H locs cells slots Q (F0 m pc ls st0) := by
  subst hstack
  exact vp_callSi (W.runS S hM cw ⟨cw_blind D ks ad ca M X F G _, fun U hU hW => ⟨rfl, by rw [hU]; exact hP, va_K.moved hW.alike hK⟩⟩ rfl hn hsize rfl (lv_room hW) hdg hf) (fun r hr => by subst hr; exact kk)
/-- the arrays of references -/
theorem cw_aald {t0 : Nat} {E : String} (hx : p.tables.exec = Jvm.exec) (hb : c.code = cc) (hK : va_K D vw_cl (cw_T ca) s) (hP : va_P D vw_cl (cw_W ks ad ca M X F G) H) (hk : k ∈ ks) (h0 : 0 < k) (h4 : k < 4) (ht : (cw_T ca)[t0]? = some (ca k, .object E)) {j : Nat} (hj : j < cw_n k) (hdg : decode cc pc = .ok (.aaload, 1))
    (kn : F k j = none → W p l e R s m args below meth c H locs cells slots Q (F0 m (pc + 1) ls (.null :: rest))) (kr : ∀ k', F k j = some k' → W p l e R s m args below meth c H locs cells slots Q (F0 m (pc + 1) ls (.ref (ad k') :: rest))) : W p l e R s m args below meth c H locs cells slots Q (F0 m pc ls (.int (nI j) :: .ref (ad k) :: rest)) := by
  obtain ⟨i, hi⟩ := List.getElem?_of_mem hk
  have hn : cw_n k < 2 ^ 31 := cw_n_lt k
  refine va_aldq hx hb hK hP i t0 ((cw_get hi).trans (by rw [cw_CA h0 h4])) ht (vp_in_nI hj hn) hdg ?_
  rw [nI_clamp (by omega)]
  cases h : F k j with
  | none => exact kn h
  | some k' => exact kr k' h
theorem cw_aalk {t0 : Nat} {E : String} (hx : p.tables.exec = Jvm.exec) (hb : c.code = cc) (hK : va_K D vw_cl (cw_T ca) s) (hP : va_P D vw_cl (cw_W ks ad ca M X F G) H) (hk : k ∈ ks) (h0 : 0 < k) (h4 : k < 4) (ht : (cw_T ca)[t0]? = some (ca k, .object E)) {j k' : Nat} (hj : j < cw_n k) (hFk : F k j = some k') (hdg : decode cc pc = .ok (.aaload, 1))
    (kk : W p l e R s m args below meth c H locs cells slots Q (F0 m (pc + 1) ls (.ref (ad k') :: rest))) : W p l e R s m args below meth c H locs cells slots Q (F0 m pc ls (.int (nI j) :: .ref (ad k) :: rest)) :=
  cw_aald hx hb hK hP hk h0 h4 ht hj hdg (fun h => by rw [hFk] at h; cases h) (fun k9 h => by rw [hFk] at h; cases h; exact kk)
/-- two references are compared -/
theorem cw_acmp_ne (hx : p.tables.exec = Jvm.exec) (hb : c.code = cc) (hJ : cw_J ks ad) {a b : Nat} (ha : a ∈ ks) (hb2 : b ∈ ks) {off : Int} {tgt : Nat} (hdg : decode cc pc = .ok (.if_acmp .ne off, 3)) (ht : (pc : Int) + off = (tgt : Int)) (kt : a ≠ b → W p l e R s m args below meth c H locs cells slots Q (F0 m tgt ls rest)) (kf : a = b → W p l e R s m args below meth c H locs cells slots Q (F0 m (pc + 3) ls rest)) : W p l e R s m args below meth c H locs cells slots Q (F0 m pc ls (.ref (ad b) :: .ref (ad a) :: rest)) :=
  lv_acmp_ne (rx := some (ad a)) (ry := some (ad b)) hx hb hdg ht (fun h => kt (fun q => h (by rw [q]))) (fun h => kf (cw_inj hJ ha hb2 (Option.some.inj h)))
theorem cw_acmp_eq (hx : p.tables.exec = Jvm.exec) (hb : c.code = cc) (hJ : cw_J ks ad) {a b : Nat} (ha : a ∈ ks) (hb2 : b ∈ ks) {off : Int} {tgt : Nat} (hdg : decode cc pc = .ok (.if_acmp .eq off, 3)) (ht : (pc : Int) + off = (tgt : Int)) (kt : a = b → W p l e R s m args below meth c H locs cells slots Q (F0 m tgt ls rest)) (kf : a ≠ b → W p l e R s m args below meth c H locs cells slots Q (F0 m (pc + 3) ls rest)) : W p l e R s m args below meth c H locs cells slots Q (F0 m pc ls (.ref (ad b) :: .ref (ad a) :: rest)) :=
  lv_acmp_eq (rx := some (ad a)) (ry := some (ad b)) hx hb hdg ht (fun h => kt (cw_inj hJ ha hb2 (Option.some.inj h))) (fun h => kf (fun q => h (by rw [q])))
end CW
