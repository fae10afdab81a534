/-! Part 63: a turn of the law, and its loop. By wip/gen/gen_loop.py. -/
set_option maxHeartbeats 2000000 in
theorem lw_turn (l : Launch) {p : Program} {e : Env} {s : State} {m : MethodId} {below : List Frame} {meth : Method} {c : Code} {H : Heap} {cells slots b L i a0 m0 : Nat} {ls : Array Slot} {xs : Nat → Int32} {D : va_G} {Q : State → Prop} (hx : p.tables.exec = Jvm.exec) (hb : c.code = code) (hml : c.maxLocals = 4) (hown : s.vm.findClass rn_L = some m.cls) (hts : ∀ w ∈ bg_tbl, w.before #[Value.ref b] s = true) (hX : va_X b L xs s s.heap) (hbl : b < s.heap.size) (hL : L < 2 ^ 31) (hI : lw_I s D H a0 m0) (hS : va_S (fun q => s.heap.size ≤ q) s.heap H []) (hl : lv_has ls 4 [(3, .int (nI i)), (2, .ref m0), (1, .ref a0), (0, .ref b)]) (hi : i + 3 < L) (hf : cells + 1 ≤ 600000 ∧ slots + 11 ≤ 7302250) (kk : ∀ H1, lw_I s D H1 a0 m0 → va_S (fun q => s.heap.size ≤ q) s.heap H1 [] → W p l e room_1 s m #[Value.ref b] below meth c H1 [] (cells + 1) (slots + 11) Q (F0 m 765 ls [])) : W p l e room_1 s m #[Value.ref b] below meth c H [] cells slots Q (F0 m 36 ls []) := by
  have hbA : ¬ s.heap.size ≤ b := by omega
  refine lv_aload_n hx hb dd_L_law_36 rfl (lv_at hl 3 rfl) ?_
  refine lv_iload_n hx hb dd_L_law_37 rfl (lv_at hl 0 rfl) ?_
  refine va_sld (A := fun q => s.heap.size ≤ q) hx hb hX hbl hbA hS (vp_in_nI (show i < L by omega) hL) dd_L_law_38 ?_
  refine lv_bipush (v := nI 31) hx hb dd_L_law_39 (by decide) ?_
  refine lv_iand hx hb dd_L_law_41 ?_
  obtain ⟨j, hj, hjj⟩ := pk_andE (xs (nI i).toNatClampNeg) (m := nI 31) 5 (by decide)
  rw [hjj]
  by_cases h20 : j < 20
  · have h9 : j = 0 ∨ j = 1 ∨ j = 2 ∨ j = 3 ∨ j = 4 ∨ j = 5 ∨ j = 6 ∨ j = 7 ∨ j = 8 ∨ j = 9 ∨ j = 10 ∨ j = 11 ∨ j = 12 ∨ j = 13 ∨ j = 14 ∨ j = 15 ∨ j = 16 ∨ j = 17 ∨ j = 18 ∨ j = 19 := by omega
    rcases h9 with rfl | rfl | rfl | rfl | rfl | rfl | rfl | rfl | rfl | rfl | rfl | rfl | rfl | rfl | rfl | rfl | rfl | rfl | rfl | rfl
    · refine lv_tableIn (tgt := 136) hx hb dd_L_law_42 (by decide) (by decide) rfl rfl ?_
      exact lw_c_queue l hx hb hml hown hts hX hbl hL hI hS hl hi hf kk
    · refine lv_tableIn (tgt := 169) hx hb dd_L_law_42 (by decide) (by decide) rfl rfl ?_
      exact lw_c_retarget l hx hb hml hown hts hX hbl hL hI hS hl hi hf kk
    · refine lv_tableIn (tgt := 202) hx hb dd_L_law_42 (by decide) (by decide) rfl rfl ?_
      exact lw_c_submit l hx hb hml hown hts hX hbl hL hI hS hl hi hf kk
    · refine lv_tableIn (tgt := 261) hx hb dd_L_law_42 (by decide) (by decide) rfl rfl ?_
      exact lw_c_after l hx hb hml hown hts hX hbl hL hI hS hl hi hf kk
    · refine lv_tableIn (tgt := 324) hx hb dd_L_law_42 (by decide) (by decide) rfl rfl ?_
      exact lw_c_call l hx hb hml hown hts hX hbl hL hI hS hl hi hf kk
    · refine lv_tableIn (tgt := 383) hx hb dd_L_law_42 (by decide) (by decide) rfl rfl ?_
      exact lw_c_whenDone l hx hb hml hown hts hX hbl hL hI hS hl hi hf kk
    · refine lv_tableIn (tgt := 416) hx hb dd_L_law_42 (by decide) (by decide) rfl rfl ?_
      exact lw_c_enter l hx hb hml hown hts hX hbl hL hI hS hl hi hf kk
    · refine lv_tableIn (tgt := 439) hx hb dd_L_law_42 (by decide) (by decide) rfl rfl ?_
      exact lw_c_leave l hx hb hml hown hts hX hbl hL hI hS hl hi hf kk
    · refine lv_tableIn (tgt := 462) hx hb dd_L_law_42 (by decide) (by decide) rfl rfl ?_
      exact lw_c_cancel l hx hb hml hown hts hX hbl hL hI hS hl hi hf kk
    · refine lv_tableIn (tgt := 485) hx hb dd_L_law_42 (by decide) (by decide) rfl rfl ?_
      exact lw_c_hold l hx hb hml hown hts hX hbl hL hI hS hl hi hf kk
    · refine lv_tableIn (tgt := 534) hx hb dd_L_law_42 (by decide) (by decide) rfl rfl ?_
      exact lw_c_begin l hx hb hml hown hts hX hbl hL hI hS hl hi hf kk
    · refine lv_tableIn (tgt := 547) hx hb dd_L_law_42 (by decide) (by decide) rfl rfl ?_
      exact lw_c_finish l hx hb hml hown hts hX hbl hL hI hS hl hi hf kk
    · refine lv_tableIn (tgt := 570) hx hb dd_L_law_42 (by decide) (by decide) rfl rfl ?_
      exact lw_c_advance l hx hb hml hown hts hX hbl hL hI hS hl hi hf kk
    · refine lv_tableIn (tgt := 623) hx hb dd_L_law_42 (by decide) (by decide) rfl rfl ?_
      exact lw_c_now l hx hb hml hown hts hX hbl hL hI hS hl hi hf kk
    · refine lv_tableIn (tgt := 637) hx hb dd_L_law_42 (by decide) (by decide) rfl rfl ?_
      exact lw_c_state l hx hb hml hown hts hX hbl hL hI hS hl hi hf kk
    · refine lv_tableIn (tgt := 660) hx hb dd_L_law_42 (by decide) (by decide) rfl rfl ?_
      exact lw_c_queued l hx hb hml hown hts hX hbl hL hI hS hl hi hf kk
    · refine lv_tableIn (tgt := 683) hx hb dd_L_law_42 (by decide) (by decide) rfl rfl ?_
      exact lw_c_through l hx hb hml hown hts hX hbl hL hI hS hl hi hf kk
    · refine lv_tableIn (tgt := 706) hx hb dd_L_law_42 (by decide) (by decide) rfl rfl ?_
      exact lw_c_peak l hx hb hml hown hts hX hbl hL hI hS hl hi hf kk
    · refine lv_tableIn (tgt := 729) hx hb dd_L_law_42 (by decide) (by decide) rfl rfl ?_
      exact lw_c_count l hx hb hml hown hts hX hbl hL hI hS hl hi hf kk
    · refine lv_tableIn (tgt := 752) hx hb dd_L_law_42 (by decide) (by decide) rfl rfl ?_
      exact lw_c_ready l hx hb hml hown hts hX hbl hL hI hS hl hi hf kk
  · refine lv_tableOut (tgt := 765) hx hb dd_L_law_42 (Or.inr (by rw [nI_toInt (by omega)]; omega)) rfl ?_
    refine W.widen (k := cells + 1) (n := slots + 11) (by omega) (by omega) ?_
    exact kk H hI hS
theorem i32_mod {x : Int} (h1 : -2147483648 ≤ x) (h2 : x ≤ 2147483647) : x.bmod (2 ^ 32) = x := by
  rw [Int.bmod_def]
  have e : ((2 ^ 32 : Nat) : Int) = 4294967296 := by decide
  rw [e]
  split <;> omega
set_option maxHeartbeats 2000000 in
theorem lw_loop (l : Launch) {p : Program} {e : Env} {s : State} {m : MethodId} {below : List Frame} {meth : Method} {c : Code} {b L a0 m0 : Nat} {xs : Nat → Int32} {D : va_G} {Q : State → Prop} (hx : p.tables.exec = Jvm.exec) (hb : c.code = code) (hml : c.maxLocals = 4) (hown : s.vm.findClass rn_L = some m.cls) (hts : ∀ w ∈ bg_tbl, w.before #[Value.ref b] s = true) (hX : va_X b L xs s s.heap) (hbl : b < s.heap.size) (hL : L ≤ 2049) (hend : ∀ (H : Heap) (ls : Array Slot), W p l e room_1 s m #[Value.ref b] below meth c H [] 600000 7302250 Q (F0 m 772 ls [.int (nI 1)])) : ∀ (n : Nat) (H : Heap) (i cells slots : Nat) (ls : Array Slot), L ≤ i + 4 * n → i ≤ 5000 → lw_I s D H a0 m0 → va_S (fun q => s.heap.size ≤ q) s.heap H [] → lv_has ls 4 [(3, .int (nI i)), (2, .ref m0), (1, .ref a0), (0, .ref b)] → cells + n ≤ 600000 → slots + 11 * n ≤ 7302250 → W p l e room_1 s m #[Value.ref b] below meth c H [] cells slots Q (F0 m 28 ls []) := by
  intro n
  induction n with
  | zero =>
    intro H i cells slots ls h1 h2 hI hS hl h3 h4
    have hbA : ¬ s.heap.size ≤ b := by omega
    have hv : (Int32.ofNat L - nI 4).toInt = (L : Int) - 4 := by
      rw [Int32.toInt_sub, show (Int32.ofNat L).toInt = (L : Int) from nI_toInt (by omega), show (nI 4).toInt = 4 from nI_toInt (by decide), i32_mod (by omega) (by omega)]
    refine lv_iload_n hx hb dd_L_law_28 rfl (lv_at hl 0 rfl) ?_
    refine lv_aload_n hx hb dd_L_law_29 rfl (lv_at hl 3 rfl) ?_
    refine va_slen (A := fun q => s.heap.size ≤ q) hx hb hX hbl hbA hS dd_L_law_30 ?_
    refine lv_iconst (v := nI 4) hx hb dd_L_law_31 (by decide) ?_
    refine lv_isub hx hb dd_L_law_32 ?_
    refine lv_icmp_gt (tgt := 771) hx hb dd_L_law_33 rfl (fun h => ?_) (fun h => absurd (Int32.lt_iff_toInt_lt.mpr (by rw [hv, nI_toInt (by omega)]; omega)) h)
    refine lv_iconst (v := nI 1) hx hb dd_L_law_771 (by decide) ?_
    exact W.widen (k := 600000) (n := 7302250) (by omega) (by omega) (hend H ls)
  | succ n ih =>
    intro H i cells slots ls h1 h2 hI hS hl h3 h4
    have hbA : ¬ s.heap.size ≤ b := by omega
    have hv : (Int32.ofNat L - nI 4).toInt = (L : Int) - 4 := by
      rw [Int32.toInt_sub, show (Int32.ofNat L).toInt = (L : Int) from nI_toInt (by omega), show (nI 4).toInt = 4 from nI_toInt (by decide), i32_mod (by omega) (by omega)]
    refine lv_iload_n hx hb dd_L_law_28 rfl (lv_at hl 0 rfl) ?_
    refine lv_aload_n hx hb dd_L_law_29 rfl (lv_at hl 3 rfl) ?_
    refine va_slen (A := fun q => s.heap.size ≤ q) hx hb hX hbl hbA hS dd_L_law_30 ?_
    refine lv_iconst (v := nI 4) hx hb dd_L_law_31 (by decide) ?_
    refine lv_isub hx hb dd_L_law_32 ?_
    refine lv_icmp_gt (tgt := 771) hx hb dd_L_law_33 rfl (fun h => ?_) (fun h => ?_)
    · refine lv_iconst (v := nI 1) hx hb dd_L_law_771 (by decide) ?_
      exact W.widen (k := 600000) (n := 7302250) (by omega) (by omega) (hend H ls)
    · have hi : i + 3 < L := by
        have h9 := mt Int32.lt_iff_toInt_lt.mpr h
        rw [hv, nI_toInt (by omega)] at h9
        omega
      refine lw_turn l hx hb hml hown hts hX hbl (by omega) hI hS hl hi ⟨by omega, by omega⟩ (fun H1 hI1 hS1 => ?_)
      refine lv_iinc (k := 0) (v := nI (i + 4)) hx hb dd_L_law_765 hl rfl (nI_plus i 4) (by decide) rfl (fun ls2 hl2 => ?_)
      refine lv_goto (tgt := 28) hx hb dd_L_law_768 rfl ?_
      exact ih H1 (i + 4) (cells + 1) (slots + 11) ls2 (by omega) (by omega) hI1 hS1 hl2 (by omega) (by omega)
