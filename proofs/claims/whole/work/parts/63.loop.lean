/-! Part 63: a turn of the law, and its loop. By wip/gen/gen_loop.py. -/
set_option maxHeartbeats 2000000 in
theorem lw_turn (l : Launch) {p : Program} {e : Env} {s : State} {m : MethodId} {below : List Frame} {meth : Method} {c : Code} {H : Heap} {cells slots b L i a0 m0 : Nat} {ls : Array Slot} {xs : Nat → Int32} {D : va_G} {Q : State → Prop} (hx : p.tables.exec = Jvm.exec) (hb : c.code = code) (hml : c.maxLocals = 4) (hown : s.vm.findClass rn_L = some m.cls) (hts : ∀ w ∈ bg_tbl, w.before #[Value.ref b] s = true) (hX : va_X b L xs s s.heap) (hbl : b < s.heap.size) (hL : L < 2 ^ 31) (hI : lw_I s D H a0 m0) (hS : va_S (fun q => s.heap.size ≤ q) s.heap H []) (hl : lv_has ls 4 [(3, .int (nI i)), (2, .ref m0), (1, .ref a0), (0, .ref b)]) (hi : i + 3 < L) (hf : cells + 1 ≤ 600000 ∧ slots + 11 ≤ 7302250) (kk : ∀ H1, lw_I s D H1 a0 m0 → va_S (fun q => s.heap.size ≤ q) s.heap H1 [] → W p l e room_1 s m #[Value.ref b] below meth c H1 [] (cells + 1) (slots + 11) Q (F0 m 765 ls [])) : W p l e room_1 s m #[Value.ref b] below meth c H [] cells slots Q (F0 m 36 ls []) := by
  have hbA : ¬ s.heap.size ≤ b := by omega
  refine lv_aload_n hx hb dd_L_law_36 rfl (lv_at hl 3 rfl) ?_
  refine lv_iload_n hx hb dd_L_law_37 rfl (lv_at hl 0 rfl) ?_
  refine va_sld (A := fun q => s.heap.size ≤ q) hx hb hX hbl hbA hS (vp_in_nI (show i < L by omega) hL) dd_L_law_38 ?_
  refine lv_bipush (v := nI 31) hx hb dd_L_law_39 (by decide) ?_
  refine lv_iand hx hb dd_L_law_41 ?_
  obtain ⟨j, hj, hjj⟩ := pk_andE (xs (nI i).toNatClampNeg) (m := nI 31) 5 (by decide)
  rw [hjj]
  by_cases h20 : j < 20
  · have h9 : j = 0 ∨ j = 1 ∨ j = 2 ∨ j = 3 ∨ j = 4 ∨ j = 5 ∨ j = 6 ∨ j = 7 ∨ j = 8 ∨ j = 9 ∨ j = 10 ∨ j = 11 ∨ j = 12 ∨ j = 13 ∨ j = 14 ∨ j = 15 ∨ j = 16 ∨ j = 17 ∨ j = 18 ∨ j = 19 := by omega
    rcases h9 with rfl | rfl | rfl | rfl | rfl | rfl | rfl | rfl | rfl | rfl | rfl | rfl | rfl | rfl | rfl | rfl | rfl | rfl | rfl | rfl
    · refine lv_tableIn (tgt := 136) hx hb dd_L_law_42 (by decide) (by decide) rfl rfl ?_
      exact lw_c_queue l hx hb hml hown hts hX hbl hL hI hS hl hi hf kk
    · refine lv_tableIn (tgt := 169) hx hb dd_L_law_42 (by decide) (by decide) rfl rfl ?_
      exact lw_c_retarget l hx hb hml hown hts hX hbl hL hI hS hl hi hf kk
    · refine lv_tableIn (tgt := 202) hx hb dd_L_law_42 (by decide) (by decide) rfl rfl ?_
      exact lw_c_submit l hx hb hml hown hts hX hbl hL hI hS hl hi hf kk
    · refine lv_tableIn (tgt := 261) hx hb dd_L_law_42 (by decide) (by decide) rfl rfl ?_
      exact lw_c_after l hx hb hml hown hts hX hbl hL hI hS hl hi hf kk
    · refine lv_tableIn (tgt := 324) hx hb dd_L_law_42 (by decide) (by decide) rfl rfl ?_
      exact lw_c_call l hx hb hml hown hts hX hbl hL hI hS hl hi hf kk
    · refine lv_tableIn (tgt := 383) hx hb dd_L_law_42 (by decide) (by decide) rfl rfl ?_
      exact lw_c_whenDone l hx hb hml hown hts hX hbl hL hI hS hl hi hf kk
    · refine lv_tableIn (tgt := 416) hx hb dd_L_law_42 (by decide) (by decide) rfl rfl ?_
      exact lw_c_enter l hx hb hml hown hts hX hbl hL hI hS hl hi hf kk
    · refine lv_tableIn (tgt := 439) hx hb dd_L_law_42 (by decide) (by decide) rfl rfl ?_
      exact lw_c_leave l hx hb hml hown hts hX hbl hL hI hS hl hi hf kk
    · refine lv_tableIn (tgt := 462) hx hb dd_L_law_42 (by decide) (by decide) rfl rfl ?_
      exact lw_c_cancel l hx hb hml hown hts hX hbl hL hI hS hl hi hf kk
    · refine lv_tableIn (tgt := 485) hx hb dd_L_law_42 (by decide) (by decide) rfl rfl ?_
      exact lw_c_hold l hx hb hml hown hts hX hbl hL hI hS hl hi hf kk
    · refine lv_tableIn (tgt := 534) hx hb dd_L_law_42 (by decide) (by decide) rfl rfl ?_
      exact lw_c_begin l hx hb hml hown hts hX hbl hL hI hS hl hi hf kk
    · refine lv_tableIn (tgt := 547) hx hb dd_L_law_42 (by decide) (by decide) rfl rfl ?_
      exact lw_c_finish l hx hb hml hown hts hX hbl hL hI hS hl hi hf kk
    · refine lv_tableIn (tgt := 570) hx hb dd_L_law_42 (by decide) (by decide) rfl rfl ?_
      exact lw_c_advance l hx hb hml hown hts hX hbl hL hI hS hl hi hf kk
    · refine lv_tableIn (tgt := 623) hx hb dd_L_law_42 (by decide) (by decide) rfl rfl ?_
      exact lw_c_now l hx hb hml hown hts hX hbl hL hI hS hl hi hf kk
    · refine lv_tableIn (tgt := 637) hx hb dd_L_law_42 (by decide) (by decide) rfl rfl ?_
      exact lw_c_state l hx hb hml hown hts hX hbl hL hI hS hl hi hf kk
    · refine lv_tableIn (tgt := 660) hx hb dd_L_law_42 (by decide) (by decide) rfl rfl ?_
      exact lw_c_queued l hx hb hml hown hts hX hbl hL hI hS hl hi hf kk
    · refine lv_tableIn (tgt := 683) hx hb dd_L_law_42 (by decide) (by decide) rfl rfl ?_
      exact lw_c_through l hx hb hml hown hts hX hbl hL hI hS hl hi hf kk
    · refine lv_tableIn (tgt := 706) hx hb dd_L_law_42 (by decide) (by decide) rfl rfl ?_
      exact lw_c_peak l hx hb hml hown hts hX hbl hL hI hS hl hi hf kk
    · refine lv_tableIn (tgt := 729) hx hb dd_L_law_42 (by decide) (by decide) rfl rfl ?_
      exact lw_c_count l hx hb hml hown hts hX hbl hL hI hS hl hi hf kk
    · refine lv_tableIn (tgt := 752) hx hb dd_L_law_42 (by decide) (by decide) rfl rfl ?_
      exact lw_c_ready l hx hb hml hown hts hX hbl hL hI hS hl hi hf kk
  · refine lv_tableOut (tgt := 765) hx hb dd_L_law_42 (Or.inr (by rw [nI_toInt (by omega)]; omega)) rfl ?_
    refine W.widen (k := cells + 1) (n := slots + 11) (by omega) (by omega) ?_
    exact kk H hI hS
