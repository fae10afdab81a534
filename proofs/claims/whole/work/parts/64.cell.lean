/-! Part 64: the contract of cell. -/
def lw_cell (L : Nat) (xs : Nat → Int32) : Int32 := if 0 < L then xs 0 else nI 0
set_option maxHeartbeats 1000000 in
theorem lw_cc_cell (l : Launch) {b L : Nat} {xs : Nat → Int32} (hL : L < 2 ^ 31) : Met l my_L_cell (Cond.code my_L_cell cd_L_cell 2 (some .int) :: bg_tbl) ({ frames := 0, cells := 0, slots := 0, locals := 0 }) (va_Pc [.ref b, .int (nI 0)] (fun U => va_X b L xs U U.heap ∧ b < U.heap.size)) (vp_Si (fun r => r = lw_cell L xs)) 0 0 (fun _ => False) := by
  refine Met.ofW (cc := cd_L_cell) (maxL := 2) (ret := (some .int)) (by decide) rfl ?_
  intro p e s m args below meth c s₁ BB hml hv
  obtain ⟨rfl, hX, hbl⟩ := hv
  have hx := BB.exec
  have hb := BB.bytes
  have hr := BB.returns
  have hS : va_S (fun _ => False) s.heap s.heap [] := va_S.rf
  have hl := lv_entry ([.ref b, .int (nI 0)]) (n := 2) (Nat.le_of_ble_eq_true rfl)
  rw [lg_entry_eq]
  generalize (lg_sl ([.ref b, .int (nI 0)]) ++ List.replicate (2 - (lg_sl ([.ref b, .int (nI 0)])).length) Slot.unset).toArray = ls at hl ⊢
  have hl : lv_has ls 2 [(0, .ref b), (1, .int (nI 0))] := hl
  refine lv_iload_n hx hb dd_L_cell_0 rfl (lv_at hl 1 rfl) ?_
  refine lv_aload_n hx hb dd_L_cell_1 rfl (lv_at hl 0 rfl) ?_
  refine va_slen (A := fun _ => False) hx hb hX hbl (fun z => z) hS dd_L_cell_2 ?_
  refine bq_ge (a := 0) (b := L) (tgt := 12) hx hb (by decide) hL dd_L_cell_3 rfl (fun h => ?_) (fun h => ?_)
  · refine lv_iconst (v := nI 0) hx hb dd_L_cell_12 (by decide) ?_
    exact W.iret hx hb hr (fun tt htt hWW => ⟨_, rfl, (by unfold lw_cell; rw [if_neg (by omega)]), htt⟩) (fun _ h => by cases h) dd_L_cell_13
  · refine lv_aload_n hx hb dd_L_cell_6 rfl (lv_at hl 0 rfl) ?_
    refine lv_iload_n hx hb dd_L_cell_7 rfl (lv_at hl 1 rfl) ?_
    refine va_sld (A := fun _ => False) hx hb hX hbl (fun z => z) hS (vp_in_nI h hL) dd_L_cell_8 ?_
    rw [nI_clamp (by decide)]
    refine lv_goto (tgt := 13) hx hb dd_L_cell_9 rfl ?_
    exact W.iret hx hb hr (fun tt htt hWW => ⟨_, rfl, (by unfold lw_cell; rw [if_pos h]), htt⟩) (fun _ h => by cases h) dd_L_cell_13
