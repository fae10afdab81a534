/-! Part 65: the law calls cell. -/
section LE
variable {p : Program} {l : Launch} {e : Env} {R : Room} {s : State} {m : MethodId} {args : Array Value} {below : List Frame} {meth : Method} {c : Code} {H H0 : Heap} {locs : List Loc} {cells slots : Nat} {Q : State → Prop}
variable {cc : ByteArray} {pc nL index b L : Nat} {ls : Array Slot} {rest st0 : List Value} {Ts : List Cond} {rm : Room} {A : Nat → Prop} {own : String} {xs : Nat → Int32}
theorem lx_cell (S : CallFix p m c cc nL s args Ts own) (hL : L < 2 ^ 31) (cw : CallB R s args own index my_L_cell cd_L_cell 2 (some .int) (Cond.code my_L_cell cd_L_cell 2 (some .int) :: bg_tbl) { frames := 0, cells := 0, slots := 0, locals := 0 } 0 0 2 ∧ (Cond.static my_L_cell).before args s = true) (hX : va_X b L xs s H0) (hbl : b < H0.size) (hbA : ¬ A b) (hS : va_S A H0 H locs) (hsize : ls.size = nL) (hstack : st0 = [Value.ref b, .int (nI 0)].reverse ++ rest) (hW : (rest.map fun v => v.category).sum ≤ 8) (hdg : decode cc pc = .ok (.invokestatic index, 3)) (hf : cells ≤ R.cells ∧ slots ≤ R.slots)
    (kk : W p l e R s m args below meth c H locs cells slots Q (F0 m (pc + 3) ls (.int (lw_cell L xs) :: rest))) : W p l e R s m args below meth c H locs cells slots Q (F0 m pc ls st0) := by
  subst hstack
  exact vp_callSi (W.runS S (lw_cc_cell l (b := b) (xs := xs) hL) cw ⟨fun a U g mk q => ⟨q.1, va_X.moved (u := U) (U := U.calling g mk a) (Vm.Alike.refl U.vm) q.2.1, q.2.2⟩, fun U hU hW => ⟨rfl, by rw [hU]; exact va_X.moved hW.alike (hX.kept (hS.2.1 b hbl hbA)), by rw [hU]; exact Nat.lt_of_lt_of_le hbl hS.1⟩⟩ rfl rfl hsize rfl (lv_room hW) hdg hf) (fun r hr => by subst hr; exact kk)
end LE
