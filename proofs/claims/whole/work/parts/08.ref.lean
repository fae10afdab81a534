/-! Part 05: the reference's world: its object and its fourteen arrays, by the mathematical state. ra: addresses, ca: array classes, by the field's slot. -/
abbrev rf_F (ra : Nat → Nat) (N : sp_N) (Z : sp_Z) : List Value := [.int (nI (N 0 0)), .int (nI (N 1 0)), .ref (ra 2), .ref (ra 3), .ref (ra 4), .ref (ra 5), .int (nI (N 6 0)), .ref (ra 7), .ref (ra 8), .ref (ra 9), .ref (ra 10), .ref (ra 11), .ref (ra 12), .ref (ra 13), .ref (ra 14), .ref (ra 15), .int (nI (N 16 0)), .ref (ra 17), .long (Z 18 0)]
abbrev rf_W (ra : Nat → Nat) (ca : Nat → ClassId) (N : sp_N) (O : sp_O) (Z : sp_Z) (B : sp_B) : va_W := [(ra 0, .inr (4, rf_F ra N Z)), (ra 2, .inl (ca 2, 12, .inl (fun j => nI (N 2 j)))), (ra 3, .inl (ca 3, 12, .inl (fun j => nI (N 3 j)))), (ra 4, .inl (ca 4, 12, .inl (fun j => nI (N 4 j)))), (ra 5, .inl (ca 5, 12, .inl (fun j => nI (N 5 j)))), (ra 7, .inl (ca 7, 160, .inl (fun j => nI (N 7 j)))), (ra 8, .inl (ca 8, 160, .inl (fun j => nI (N 8 j)))), (ra 9, .inl (ca 9, 160, .inl (fun j => bd_o (O 9 j)))), (ra 10, .inl (ca 10, 160, .inl (fun j => bd_o (O 10 j)))), (ra 11, .inl (ca 11, 160, .inl (fun j => bd_o (O 11 j)))), (ra 12, .inl (ca 12, 160, .inl (fun j => nI (N 12 j)))), (ra 13, .inl (ca 13, 160, .inr (.inl (Z 13)))), (ra 14, .inl (ca 14, 160, .inl (fun j => bd_b (B 14 j)))), (ra 15, .inl (ca 15, 160, .inl (fun j => bd_b (B 15 j)))), (ra 17, .inl (ca 17, 4, .inl (fun j => nI (N 17 j))))]
abbrev rf_T (ca : Nat → ClassId) : List (ClassId × FieldType) := [(ca 2, .int), (ca 3, .int), (ca 4, .int), (ca 5, .int), (ca 7, .int), (ca 8, .int), (ca 9, .int), (ca 10, .int), (ca 11, .int), (ca 12, .int), (ca 13, .long), (ca 14, .boolean), (ca 15, .boolean), (ca 17, .int)]
/-- the world of a state -/
def rf_U (D : va_G) (ra : Nat → Nat) (ca : Nat → ClassId) (N : sp_N) (O : sp_O) (Z : sp_Z) (B : sp_B) (U : State) : Prop := va_P D vw_cl (rf_W ra ca N O Z B) U.heap ∧ va_K D vw_cl (rf_T ca) U
/-- the slots that have a cell of their own; 0 is the object -/
def rf_u : List Nat := [0, 2, 3, 4, 5, 7, 8, 9, 10, 11, 12, 13, 14, 15, 17]
/-- the cells that the reference's methods may write -/
def rf_A (ra : Nat → Nat) : Nat → Prop := fun q => ∃ i : Nat, i ∈ rf_u ∧ q = ra i
/-- the addresses are apart -/
def rf_J (ra : Nat → Nat) : Prop := ∀ i j : Nat, i ∈ rf_u → j ∈ rf_u → ra i = ra j → i = j
theorem rf_blind (D : va_G) (ra : Nat → Nat) (ca : Nat → ClassId) (N : sp_N) (O : sp_O) (Z : sp_Z) (B : sp_B) (As : List Value) : FrameBlind (va_Pc As (rf_U D ra ca N O Z B)) := fun a U g mk q => ⟨q.1, q.2.1, va_K.moved (u := U) (U := U.calling g mk a) (Vm.Alike.refl U.vm) q.2.2⟩
theorem rf_D {ra : Nat → Nat} (h : rf_J ra) (ca : Nat → ClassId) (N : sp_N) (O : sp_O) (Z : sp_Z) (B : sp_B) : va_D (rf_A ra) (rf_W ra ca N O Z B) := by
  have key : ∀ (k : Nat) (q : Nat × va_E), (rf_W ra ca N O Z B)[k]? = some q → ∃ i, ([0, 2, 3, 4, 5, 7, 8, 9, 10, 11, 12, 13, 14, 15, 17] : List Nat)[k]? = some i ∧ q.1 = ra i := by
    intro k q hk
    have h1 : ((rf_W ra ca N O Z B).map Prod.fst)[k]? = some q.1 := by rw [List.getElem?_map, hk]; rfl
    have h2 : (([0, 2, 3, 4, 5, 7, 8, 9, 10, 11, 12, 13, 14, 15, 17] : List Nat).map ra)[k]? = some q.1 := h1
    rw [List.getElem?_map] at h2
    cases hi : ([0, 2, 3, 4, 5, 7, 8, 9, 10, 11, 12, 13, 14, 15, 17] : List Nat)[k]? with
    | none => rw [hi] at h2; cases h2
    | some i => rw [hi] at h2; exact ⟨i, rfl, (Option.some.inj h2).symm⟩
  have lt : ∀ (k i : Nat), ([0, 2, 3, 4, 5, 7, 8, 9, 10, 11, 12, 13, 14, 15, 17] : List Nat)[k]? = some i → i ∈ rf_u := fun k i hk => List.mem_of_getElem? hk
  refine ⟨fun i j x y hi hj hxy => ?_, fun k q hk => ?_⟩
  · obtain ⟨a, a1, a2⟩ := key i x hi
    obtain ⟨b, b1, b2⟩ := key j y hj
    have hab := h a b (lt _ _ a1) (lt _ _ b1) (by rw [← a2, ← b2]; exact hxy)
    subst hab
    exact va_nd_inj _ (by decide) i j a a1 b1
  · obtain ⟨a, a1, a2⟩ := key k q hk
    exact ⟨a, lt _ _ a1, a2⟩
section RF
variable {p : Program} {l : Launch} {e : Env} {R : Room} {s : State} {m : MethodId} {args : Array Value} {below : List Frame} {meth : Method} {c : Code} {H : Heap} {locs : List Loc} {cells slots : Nat} {Q : State → Prop}
variable {cc bytes : ByteArray} {pc nL maxL index n : Nat} {ls : Array Slot} {rest st0 : List Value} {D : va_G} {ra : Nat → Nat} {ca : Nat → ClassId} {N : sp_N} {O : sp_O} {Z : sp_Z} {B : sp_B} {Ts ws : List Cond} {y : MethodName} {ret : Option FieldType} {rm : Room} {As : List Value}
/-- a call, inside the reference, of a method that only reads and answers v -/
theorem rf_calli {v : Int32} (S : CallFix p m c cc nL s args Ts rn_M) (hM : Met l y ws rm (va_Pc (.ref (ra 0) :: As) (rf_U D ra ca N O Z B)) (vp_Si (fun r => r = v)) 0 0 (fun _ => False)) (cw : CallW R s args rn_M rn_M index y bytes maxL ret ws rm 0 0 n) (hK : va_K D vw_cl (rf_T ca) s) (hP : va_P D vw_cl (rf_W ra ca N O Z B) H) (hn : As.length = n) (hsize : ls.size = nL) (hstack : st0 = As.reverse ++ .ref (ra 0) :: rest) (hW : (rest.map fun v => v.category).sum ≤ 8) (hdg : decode cc pc = .ok (.invokevirtual index, 3)) (hf : cells ≤ R.cells ∧ slots ≤ R.slots)
    (kk : W p l e R s m args below meth c H locs cells slots Q (F0 m (pc + 3) ls (.int v :: rest))) : W p l e R s m args below meth c H locs cells slots Q (F0 m pc ls st0) := by
  subst hstack
  exact vp_callSi (W.runV S hM cw ⟨rf_blind D ra ca N O Z B _, va_recv hK hP (ci := 4) rfl (q0 := 0) rfl, fun U hU hW => ⟨rfl, by rw [hU]; exact hP, va_K.moved hW.alike hK⟩⟩ rfl hn hsize rfl (lv_room hW) hdg hf) (fun r hr => by subst hr; exact kk)
end RF
