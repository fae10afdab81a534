/-! Part 58: the cases of the law that write. By wip/gen/gen_law.py. -/
set_option maxHeartbeats 2000000 in
set_option maxRecDepth 100000 in
theorem lw_c_enter (l : Launch) {p : Program} {e : Env} {s : State} {m : MethodId} {below : List Frame} {meth : Method} {c : Code} {H : Heap} {cells slots b L i a0 m0 : Nat} {ls : Array Slot} {xs : Nat → Int32} {D : va_G} {Q : State → Prop} (hx : p.tables.exec = Jvm.exec) (hb : c.code = code) (hml : c.maxLocals = 4) (hown : s.vm.findClass rn_L = some m.cls) (hts : ∀ w ∈ bg_tbl, w.before #[Value.ref b] s = true) (hX : va_X b L xs s s.heap) (hbl : b < s.heap.size) (hL : L < 2 ^ 31) (hI : lw_I s D H a0 m0) (hS : va_S (fun q => s.heap.size ≤ q) s.heap H []) (hl : lv_has ls 4 [(3, .int (nI i)), (2, .ref m0), (1, .ref a0), (0, .ref b)]) (hi : i + 3 < L) (hf : cells + 1 ≤ 600000 ∧ slots + 11 ≤ 7302250) (kk : ∀ H1, lw_I s D H1 a0 m0 → va_S (fun q => s.heap.size ≤ q) s.heap H1 [] → W p l e room_1 s m #[Value.ref b] below meth c H1 [] (cells + 1) (slots + 11) Q (F0 m 765 ls [])) : W p l e room_1 s m #[Value.ref b] below meth c H [] cells slots Q (F0 m 416 ls []) := by
  obtain ⟨ks, ad, cb, ra, ca, M, X, F, G, N, O, Z, B, rfl, rfl, hKc, hKr, hP, hQ, hJ, hJr, hs1, hs2, hap, hk, hk2, hR, hF⟩ := hI
  have hbA : ¬ s.heap.size ≤ b := by omega
  have h12 := cl_12 hR.1
  have h160 := cl_160 hR.1
  obtain ⟨hv, hR2⟩ := mt_enter hR (g := bd_at (xs (i + 1)) 4) (fun k h => bd_at_lt h (by decide))
  obtain ⟨hk9, hk29⟩ := cl_k_cg (N' := nm_enter N (bd_at (xs (i + 1)) 4)) hk hk2 (nm_enter_e _ (Or.inl rfl)) (nm_enter_e _ (Or.inr rfl))
  refine lv_aload_n hx hb dd_L_law_416 rfl (lv_at hl 2 rfl) ?_
  refine lw_ld (k := 1) (A := fun q => s.heap.size ≤ q) hx hb hX hbl hbA hS hl (q0 := 3) (q3 := 0) rfl rfl (by omega) hL (by decide) dd_L_law_417 dd_L_law_418 dd_L_law_419 dd_L_law_420 dd_L_law_421 ?_
  refine lx_x (As := [.int (xs (i + 1))]) (rest := []) (A0 := fun q => s.heap.size ≤ q) ⟨hx, hb, hml, hown, hts⟩ (cc_D_enter l D ks ad cb hJ M X F G N O B hR.1 hk hR.2.2.2 (xs (i + 1))) (bg_cwV 1 hts tw_ml_L_51 tw_im_D_enter tw_se_D_enter tw_in_D tw_co_D_enter rfl rfl th_D_enter ⟨Nat.le_of_ble_eq_true rfl, Nat.le_of_ble_eq_true rfl⟩) hKc hP hQ (lw_ap1 hap hJr) (fun q hq => by obtain ⟨k9, h9, rfl⟩ := hq; exact hs1 k9 h9) hS (hk.1 0 (by decide)) rfl hl.1 rfl (Nat.le_of_ble_eq_true rfl) dd_L_law_422 ⟨show cells ≤ 600000 by omega, show slots ≤ 7302250 by omega⟩ (fun H locs hP hQ hS => ?_)
  refine va_forget (fun q hq => hS.2.2 q hq) ?_
  have hS : va_S (fun q => s.heap.size ≤ q) s.heap H [] := ⟨hS.1, hS.2.1, fun q hq => (by cases hq)⟩
  refine lv_aload_n hx hb dd_L_law_425 rfl (lv_at hl 1 rfl) ?_
  refine lw_ld (k := 1) (A := fun q => s.heap.size ≤ q) hx hb hX hbl hbA hS hl (q0 := 3) (q3 := 0) rfl rfl (by omega) hL (by decide) dd_L_law_426 dd_L_law_427 dd_L_law_428 dd_L_law_429 dd_L_law_430 ?_
  refine lx_m (As := [.int (xs (i + 1))]) (A0 := fun q => s.heap.size ≤ q) ⟨hx, hb, hml, hown, hts⟩ (rc_enter l D ra ca hJr N O Z B hR.2.2.1.1.2.1 (xs (i + 1))) (bg_cwV 1 hts tw_ml_L_55 tw_im_M_enter tw_se_M_enter tw_in_M tw_co_M_enter rfl rfl th_M_enter ⟨Nat.le_of_ble_eq_true rfl, Nat.le_of_ble_eq_true rfl⟩) hKr hQ hP (lw_ap2 hap) (fun q hq => by obtain ⟨k9, h9, rfl⟩ := hq; exact hs2 k9 h9) hS rfl hl.1 rfl (Nat.le_of_ble_eq_true rfl) dd_L_law_431 ⟨show cells ≤ 600000 by omega, show slots ≤ 7302250 by omega⟩ (fun H locs hQ hP hS => ?_)
  refine va_forget (fun q hq => hS.2.2 q hq) ?_
  have hS : va_S (fun q => s.heap.size ≤ q) s.heap H [] := ⟨hS.1, hS.2.1, fun q hq => (by cases hq)⟩
  rw [hv]
  refine lv_icmp_eq (tgt := 765) hx hb dd_L_law_434 rfl (fun _ => ?_) (fun h => absurd rfl h)
  refine W.widen (k := cells + 1) (n := slots + 11) (by omega) (by omega) ?_
  exact kk H ⟨ks, ad, cb, ra, ca, _, _, _, _, _, _, _, _, rfl, rfl, hKc, hKr, hP, hQ, hJ, hJr, hs1, hs2, hap, hk9, hk29, hR2, hF⟩ hS
set_option maxHeartbeats 2000000 in
set_option maxRecDepth 100000 in
theorem lw_c_leave (l : Launch) {p : Program} {e : Env} {s : State} {m : MethodId} {below : List Frame} {meth : Method} {c : Code} {H : Heap} {cells slots b L i a0 m0 : Nat} {ls : Array Slot} {xs : Nat → Int32} {D : va_G} {Q : State → Prop} (hx : p.tables.exec = Jvm.exec) (hb : c.code = code) (hml : c.maxLocals = 4) (hown : s.vm.findClass rn_L = some m.cls) (hts : ∀ w ∈ bg_tbl, w.before #[Value.ref b] s = true) (hX : va_X b L xs s s.heap) (hbl : b < s.heap.size) (hL : L < 2 ^ 31) (hI : lw_I s D H a0 m0) (hS : va_S (fun q => s.heap.size ≤ q) s.heap H []) (hl : lv_has ls 4 [(3, .int (nI i)), (2, .ref m0), (1, .ref a0), (0, .ref b)]) (hi : i + 3 < L) (hf : cells + 1 ≤ 600000 ∧ slots + 11 ≤ 7302250) (kk : ∀ H1, lw_I s D H1 a0 m0 → va_S (fun q => s.heap.size ≤ q) s.heap H1 [] → W p l e room_1 s m #[Value.ref b] below meth c H1 [] (cells + 1) (slots + 11) Q (F0 m 765 ls [])) : W p l e room_1 s m #[Value.ref b] below meth c H [] cells slots Q (F0 m 439 ls []) := by
  obtain ⟨ks, ad, cb, ra, ca, M, X, F, G, N, O, Z, B, rfl, rfl, hKc, hKr, hP, hQ, hJ, hJr, hs1, hs2, hap, hk, hk2, hR, hF⟩ := hI
  have hbA : ¬ s.heap.size ≤ b := by omega
  have h12 := cl_12 hR.1
  have h160 := cl_160 hR.1
  obtain ⟨hv, hR2⟩ := mt_leave hR (g := bd_at (xs (i + 1)) 4) (fun k h => bd_at_lt h (by decide))
  obtain ⟨hk9, hk29⟩ := cl_k_cg (N' := nm_leave N O (bd_at (xs (i + 1)) 4)) hk hk2 (nm_leave_e _ (Or.inl rfl)) (nm_leave_e _ (Or.inr rfl))
  refine lv_aload_n hx hb dd_L_law_439 rfl (lv_at hl 2 rfl) ?_
  refine lw_ld (k := 1) (A := fun q => s.heap.size ≤ q) hx hb hX hbl hbA hS hl (q0 := 3) (q3 := 0) rfl rfl (by omega) hL (by decide) dd_L_law_440 dd_L_law_441 dd_L_law_442 dd_L_law_443 dd_L_law_444 ?_
  refine lx_x (As := [.int (xs (i + 1))]) (rest := []) (A0 := fun q => s.heap.size ≤ q) ⟨hx, hb, hml, hown, hts⟩ (cc_D_leave l D ks ad cb hJ M X F G N O B hR.1 hk hR.2.2.2 (xs (i + 1))) (bg_cwV 1 hts tw_ml_L_56 tw_im_D_leave tw_se_D_leave tw_in_D tw_co_D_leave rfl rfl th_D_leave ⟨Nat.le_of_ble_eq_true rfl, Nat.le_of_ble_eq_true rfl⟩) hKc hP hQ (lw_ap1 hap hJr) (fun q hq => by obtain ⟨k9, h9, rfl⟩ := hq; exact hs1 k9 h9) hS (hk.1 0 (by decide)) rfl hl.1 rfl (Nat.le_of_ble_eq_true rfl) dd_L_law_445 ⟨show cells ≤ 600000 by omega, show slots ≤ 7302250 by omega⟩ (fun H locs hP hQ hS => ?_)
  refine va_forget (fun q hq => hS.2.2 q hq) ?_
  have hS : va_S (fun q => s.heap.size ≤ q) s.heap H [] := ⟨hS.1, hS.2.1, fun q hq => (by cases hq)⟩
  refine lv_aload_n hx hb dd_L_law_448 rfl (lv_at hl 1 rfl) ?_
  refine lw_ld (k := 1) (A := fun q => s.heap.size ≤ q) hx hb hX hbl hbA hS hl (q0 := 3) (q3 := 0) rfl rfl (by omega) hL (by decide) dd_L_law_449 dd_L_law_450 dd_L_law_451 dd_L_law_452 dd_L_law_453 ?_
  refine lx_m (As := [.int (xs (i + 1))]) (A0 := fun q => s.heap.size ≤ q) ⟨hx, hb, hml, hown, hts⟩ (rc_leave l D ra ca hJr N O Z B hR.2.2.1.1.2.1 (xs (i + 1))) (bg_cwV 1 hts tw_ml_L_59 tw_im_M_leave tw_se_M_leave tw_in_M tw_co_M_leave rfl rfl th_M_leave ⟨Nat.le_of_ble_eq_true rfl, Nat.le_of_ble_eq_true rfl⟩) hKr hQ hP (lw_ap2 hap) (fun q hq => by obtain ⟨k9, h9, rfl⟩ := hq; exact hs2 k9 h9) hS rfl hl.1 rfl (Nat.le_of_ble_eq_true rfl) dd_L_law_454 ⟨show cells ≤ 600000 by omega, show slots ≤ 7302250 by omega⟩ (fun H locs hQ hP hS => ?_)
  refine va_forget (fun q hq => hS.2.2 q hq) ?_
  have hS : va_S (fun q => s.heap.size ≤ q) s.heap H [] := ⟨hS.1, hS.2.1, fun q hq => (by cases hq)⟩
  rw [hv]
  refine lv_icmp_eq (tgt := 765) hx hb dd_L_law_457 rfl (fun _ => ?_) (fun h => absurd rfl h)
  refine W.widen (k := cells + 1) (n := slots + 11) (by omega) (by omega) ?_
  exact kk H ⟨ks, ad, cb, ra, ca, _, _, _, _, _, _, _, _, rfl, rfl, hKc, hKr, hP, hQ, hJ, hJr, hs1, hs2, hap, hk9, hk29, hR2, cl_F_leave hF hk _⟩ hS
set_option maxHeartbeats 2000000 in
set_option maxRecDepth 100000 in
theorem lw_c_cancel (l : Launch) {p : Program} {e : Env} {s : State} {m : MethodId} {below : List Frame} {meth : Method} {c : Code} {H : Heap} {cells slots b L i a0 m0 : Nat} {ls : Array Slot} {xs : Nat → Int32} {D : va_G} {Q : State → Prop} (hx : p.tables.exec = Jvm.exec) (hb : c.code = code) (hml : c.maxLocals = 4) (hown : s.vm.findClass rn_L = some m.cls) (hts : ∀ w ∈ bg_tbl, w.before #[Value.ref b] s = true) (hX : va_X b L xs s s.heap) (hbl : b < s.heap.size) (hL : L < 2 ^ 31) (hI : lw_I s D H a0 m0) (hS : va_S (fun q => s.heap.size ≤ q) s.heap H []) (hl : lv_has ls 4 [(3, .int (nI i)), (2, .ref m0), (1, .ref a0), (0, .ref b)]) (hi : i + 3 < L) (hf : cells + 1 ≤ 600000 ∧ slots + 11 ≤ 7302250) (kk : ∀ H1, lw_I s D H1 a0 m0 → va_S (fun q => s.heap.size ≤ q) s.heap H1 [] → W p l e room_1 s m #[Value.ref b] below meth c H1 [] (cells + 1) (slots + 11) Q (F0 m 765 ls [])) : W p l e room_1 s m #[Value.ref b] below meth c H [] cells slots Q (F0 m 462 ls []) := by
  obtain ⟨ks, ad, cb, ra, ca, M, X, F, G, N, O, Z, B, rfl, rfl, hKc, hKr, hP, hQ, hJ, hJr, hs1, hs2, hap, hk, hk2, hR, hF⟩ := hI
  have hbA : ¬ s.heap.size ≤ b := by omega
  have h12 := cl_12 hR.1
  have h160 := cl_160 hR.1
  obtain ⟨hv, hR2⟩ := mt_cancel2 hR (o := bd_at (xs (i + 1)) (N 6 0)) (fun k h => bd_at_lt h (by omega))
  obtain ⟨hk9, hk29⟩ := cl_k_cg (N' := N) hk hk2 (rfl) (rfl)
  refine lv_aload_n hx hb dd_L_law_462 rfl (lv_at hl 2 rfl) ?_
  refine lw_ld (k := 1) (A := fun q => s.heap.size ≤ q) hx hb hX hbl hbA hS hl (q0 := 3) (q3 := 0) rfl rfl (by omega) hL (by decide) dd_L_law_463 dd_L_law_464 dd_L_law_465 dd_L_law_466 dd_L_law_467 ?_
  refine lx_x (As := [.int (xs (i + 1))]) (rest := []) (A0 := fun q => s.heap.size ≤ q) ⟨hx, hb, hml, hown, hts⟩ (cc_D_cancel l D ks ad cb hJ M X F G N O B hR.1 hk hR.2.2.2 (xs (i + 1))) (bg_cwV 1 hts tw_ml_L_60 tw_im_D_cancel tw_se_D_cancel tw_in_D tw_co_D_cancel rfl rfl th_D_cancel ⟨Nat.le_of_ble_eq_true rfl, Nat.le_of_ble_eq_true rfl⟩) hKc hP hQ (lw_ap1 hap hJr) (fun q hq => by obtain ⟨k9, h9, rfl⟩ := hq; exact hs1 k9 h9) hS (hk.1 0 (by decide)) rfl hl.1 rfl (Nat.le_of_ble_eq_true rfl) dd_L_law_468 ⟨show cells ≤ 600000 by omega, show slots ≤ 7302250 by omega⟩ (fun H locs hP hQ hS => ?_)
  refine va_forget (fun q hq => hS.2.2 q hq) ?_
  have hS : va_S (fun q => s.heap.size ≤ q) s.heap H [] := ⟨hS.1, hS.2.1, fun q hq => (by cases hq)⟩
  refine lv_aload_n hx hb dd_L_law_471 rfl (lv_at hl 1 rfl) ?_
  refine lw_ld (k := 1) (A := fun q => s.heap.size ≤ q) hx hb hX hbl hbA hS hl (q0 := 3) (q3 := 0) rfl rfl (by omega) hL (by decide) dd_L_law_472 dd_L_law_473 dd_L_law_474 dd_L_law_475 dd_L_law_476 ?_
  refine lx_m (As := [.int (xs (i + 1))]) (A0 := fun q => s.heap.size ≤ q) ⟨hx, hb, hml, hown, hts⟩ (rc_cancel l D ra ca hJr N O Z B hR.2.2.1.1.2.1 (xs (i + 1))) (bg_cwV 1 hts tw_ml_L_63 tw_im_M_cancel tw_se_M_cancel tw_in_M tw_co_M_cancel rfl rfl th_M_cancel ⟨Nat.le_of_ble_eq_true rfl, Nat.le_of_ble_eq_true rfl⟩) hKr hQ hP (lw_ap2 hap) (fun q hq => by obtain ⟨k9, h9, rfl⟩ := hq; exact hs2 k9 h9) hS rfl hl.1 rfl (Nat.le_of_ble_eq_true rfl) dd_L_law_477 ⟨show cells ≤ 600000 by omega, show slots ≤ 7302250 by omega⟩ (fun H locs hQ hP hS => ?_)
  refine va_forget (fun q hq => hS.2.2 q hq) ?_
  have hS : va_S (fun q => s.heap.size ≤ q) s.heap H [] := ⟨hS.1, hS.2.1, fun q hq => (by cases hq)⟩
  rw [hv]
  refine lv_icmp_eq (tgt := 765) hx hb dd_L_law_480 rfl (fun _ => ?_) (fun h => absurd rfl h)
  refine W.widen (k := cells + 1) (n := slots + 11) (by omega) (by omega) ?_
  exact kk H ⟨ks, ad, cb, ra, ca, _, _, _, _, _, _, _, _, rfl, rfl, hKc, hKr, hP, hQ, hJ, hJr, hs1, hs2, hap, hk9, hk29, hR2, hF⟩ hS
set_option maxHeartbeats 2000000 in
set_option maxRecDepth 100000 in
theorem lw_c_hold (l : Launch) {p : Program} {e : Env} {s : State} {m : MethodId} {below : List Frame} {meth : Method} {c : Code} {H : Heap} {cells slots b L i a0 m0 : Nat} {ls : Array Slot} {xs : Nat → Int32} {D : va_G} {Q : State → Prop} (hx : p.tables.exec = Jvm.exec) (hb : c.code = code) (hml : c.maxLocals = 4) (hown : s.vm.findClass rn_L = some m.cls) (hts : ∀ w ∈ bg_tbl, w.before #[Value.ref b] s = true) (hX : va_X b L xs s s.heap) (hbl : b < s.heap.size) (hL : L < 2 ^ 31) (hI : lw_I s D H a0 m0) (hS : va_S (fun q => s.heap.size ≤ q) s.heap H []) (hl : lv_has ls 4 [(3, .int (nI i)), (2, .ref m0), (1, .ref a0), (0, .ref b)]) (hi : i + 3 < L) (hf : cells + 1 ≤ 600000 ∧ slots + 11 ≤ 7302250) (kk : ∀ H1, lw_I s D H1 a0 m0 → va_S (fun q => s.heap.size ≤ q) s.heap H1 [] → W p l e room_1 s m #[Value.ref b] below meth c H1 [] (cells + 1) (slots + 11) Q (F0 m 765 ls [])) : W p l e room_1 s m #[Value.ref b] below meth c H [] cells slots Q (F0 m 485 ls []) := by
  obtain ⟨ks, ad, cb, ra, ca, M, X, F, G, N, O, Z, B, rfl, rfl, hKc, hKr, hP, hQ, hJ, hJr, hs1, hs2, hap, hk, hk2, hR, hF⟩ := hI
  have hbA : ¬ s.heap.size ≤ b := by omega
  have h12 := cl_12 hR.1
  have h160 := cl_160 hR.1
  obtain ⟨hv, hR2⟩ := mt_hold2 hR (o := bd_at (xs (i + 1)) (N 1 0)) (fun k h => bd_at_lt h (by omega)) (!decide (xs (i + 2) = 0))
  obtain ⟨hk9, hk29⟩ := cl_k_cg (N' := nm_hold N (bd_at (xs (i + 1)) (N 1 0)) (!decide (xs (i + 2) = 0))) hk hk2 (nm_hold_e _ _ (Or.inl rfl)) (nm_hold_e _ _ (Or.inr rfl))
  refine lv_aload_n hx hb dd_L_law_485 rfl (lv_at hl 2 rfl) ?_
  refine lw_ld (k := 1) (A := fun q => s.heap.size ≤ q) hx hb hX hbl hbA hS hl (q0 := 3) (q3 := 0) rfl rfl (by omega) hL (by decide) dd_L_law_486 dd_L_law_487 dd_L_law_488 dd_L_law_489 dd_L_law_490 ?_
  refine lw_ld (k := 2) (A := fun q => s.heap.size ≤ q) hx hb hX hbl hbA hS hl (q0 := 3) (q3 := 0) rfl rfl (by omega) hL (by decide) dd_L_law_491 dd_L_law_492 dd_L_law_493 dd_L_law_494 dd_L_law_495 ?_
  refine lw_bool hx hb dd_L_law_496 dd_L_law_499 dd_L_law_500 dd_L_law_503 ?_
  refine lx_x (As := [.int (xs (i + 1)), .int (bd_b (!decide (xs (i + 2) = 0)))]) (rest := []) (A0 := fun q => s.heap.size ≤ q) ⟨hx, hb, hml, hown, hts⟩ (cc_D_hold l D ks ad cb hJ M X F G N O B hR.1 hk hR.2.2.2 (xs (i + 1)) (!decide (xs (i + 2) = 0))) (bg_cwV 2 hts tw_ml_L_64 tw_im_D_hold tw_se_D_hold tw_in_D tw_co_D_hold rfl rfl th_D_hold ⟨Nat.le_of_ble_eq_true rfl, Nat.le_of_ble_eq_true rfl⟩) hKc hP hQ (lw_ap1 hap hJr) (fun q hq => by obtain ⟨k9, h9, rfl⟩ := hq; exact hs1 k9 h9) hS (hk.1 0 (by decide)) rfl hl.1 rfl (Nat.le_of_ble_eq_true rfl) dd_L_law_504 ⟨show cells ≤ 600000 by omega, show slots ≤ 7302250 by omega⟩ (fun H locs hP hQ hS => ?_)
  refine va_forget (fun q hq => hS.2.2 q hq) ?_
  have hS : va_S (fun q => s.heap.size ≤ q) s.heap H [] := ⟨hS.1, hS.2.1, fun q hq => (by cases hq)⟩
  refine lv_aload_n hx hb dd_L_law_507 rfl (lv_at hl 1 rfl) ?_
  refine lw_ld (k := 1) (A := fun q => s.heap.size ≤ q) hx hb hX hbl hbA hS hl (q0 := 3) (q3 := 0) rfl rfl (by omega) hL (by decide) dd_L_law_508 dd_L_law_509 dd_L_law_510 dd_L_law_511 dd_L_law_512 ?_
  refine lw_ld (k := 2) (A := fun q => s.heap.size ≤ q) hx hb hX hbl hbA hS hl (q0 := 3) (q3 := 0) rfl rfl (by omega) hL (by decide) dd_L_law_513 dd_L_law_514 dd_L_law_515 dd_L_law_516 dd_L_law_517 ?_
  refine lw_bool hx hb dd_L_law_518 dd_L_law_521 dd_L_law_522 dd_L_law_525 ?_
  refine lx_m (As := [.int (xs (i + 1)), .int (bd_b (!decide (xs (i + 2) = 0)))]) (A0 := fun q => s.heap.size ≤ q) ⟨hx, hb, hml, hown, hts⟩ (rc_hold l D ra ca hJr N O Z B hR.2.2.1.1.2.1 (xs (i + 1)) (!decide (xs (i + 2) = 0))) (bg_cwV 2 hts tw_ml_L_68 tw_im_M_hold tw_se_M_hold tw_in_M tw_co_M_hold rfl rfl th_M_hold ⟨Nat.le_of_ble_eq_true rfl, Nat.le_of_ble_eq_true rfl⟩) hKr hQ hP (lw_ap2 hap) (fun q hq => by obtain ⟨k9, h9, rfl⟩ := hq; exact hs2 k9 h9) hS rfl hl.1 rfl (Nat.le_of_ble_eq_true rfl) dd_L_law_526 ⟨show cells ≤ 600000 by omega, show slots ≤ 7302250 by omega⟩ (fun H locs hQ hP hS => ?_)
  refine va_forget (fun q hq => hS.2.2 q hq) ?_
  have hS : va_S (fun q => s.heap.size ≤ q) s.heap H [] := ⟨hS.1, hS.2.1, fun q hq => (by cases hq)⟩
  rw [hv]
  refine lv_icmp_eq (tgt := 765) hx hb dd_L_law_529 rfl (fun _ => ?_) (fun h => absurd rfl h)
  refine W.widen (k := cells + 1) (n := slots + 11) (by omega) (by omega) ?_
  exact kk H ⟨ks, ad, cb, ra, ca, _, _, _, _, _, _, _, _, rfl, rfl, hKc, hKr, hP, hQ, hJ, hJr, hs1, hs2, hap, hk9, hk29, hR2, hF⟩ hS
set_option maxHeartbeats 2000000 in
set_option maxRecDepth 100000 in
theorem lw_c_begin (l : Launch) {p : Program} {e : Env} {s : State} {m : MethodId} {below : List Frame} {meth : Method} {c : Code} {H : Heap} {cells slots b L i a0 m0 : Nat} {ls : Array Slot} {xs : Nat → Int32} {D : va_G} {Q : State → Prop} (hx : p.tables.exec = Jvm.exec) (hb : c.code = code) (hml : c.maxLocals = 4) (hown : s.vm.findClass rn_L = some m.cls) (hts : ∀ w ∈ bg_tbl, w.before #[Value.ref b] s = true) (hX : va_X b L xs s s.heap) (hbl : b < s.heap.size) (hL : L < 2 ^ 31) (hI : lw_I s D H a0 m0) (hS : va_S (fun q => s.heap.size ≤ q) s.heap H []) (hl : lv_has ls 4 [(3, .int (nI i)), (2, .ref m0), (1, .ref a0), (0, .ref b)]) (hi : i + 3 < L) (hf : cells + 1 ≤ 600000 ∧ slots + 11 ≤ 7302250) (kk : ∀ H1, lw_I s D H1 a0 m0 → va_S (fun q => s.heap.size ≤ q) s.heap H1 [] → W p l e room_1 s m #[Value.ref b] below meth c H1 [] (cells + 1) (slots + 11) Q (F0 m 765 ls [])) : W p l e room_1 s m #[Value.ref b] below meth c H [] cells slots Q (F0 m 534 ls []) := by
  obtain ⟨ks, ad, cb, ra, ca, M, X, F, G, N, O, Z, B, rfl, rfl, hKc, hKr, hP, hQ, hJ, hJr, hs1, hs2, hap, hk, hk2, hR, hF⟩ := hI
  have hbA : ¬ s.heap.size ≤ b := by omega
  have h12 := cl_12 hR.1
  have h160 := cl_160 hR.1
  obtain ⟨hv, hR2⟩ := mt_begin hR
  obtain ⟨hok1, hok2⟩ := mt_okb (N := N) (f := 161) hR (fun _ _ _ _ => rfl)
  have hbq : ∀ t, t < N 6 0 → 8 + N 7 t ∈ ks := fun t ht => hk.2.1 _ (cl_hl hR.1 ht)
  obtain ⟨hk9, hk29⟩ := cl_k_cg (N' := nm_begin N O B) hk hk2 (by rw [nm_begin_e (by decide) (by decide) (by decide) (by decide)]) (by rw [nm_begin_e (by decide) (by decide) (by decide) (by decide)])
  refine lv_aload_n hx hb dd_L_law_534 rfl (lv_at hl 2 rfl) ?_
  refine lx_x (As := []) (rest := []) (A0 := fun q => s.heap.size ≤ q) ⟨hx, hb, hml, hown, hts⟩ (cc_D_begin l D ks ad cb hJ M X F G N O B hR.1 hk hok1) (bg_cwV 0 hts tw_ml_L_69 tw_im_D_begin tw_se_D_begin tw_in_D tw_co_D_begin rfl rfl th_D_begin ⟨Nat.le_of_ble_eq_true rfl, Nat.le_of_ble_eq_true rfl⟩) hKc hP hQ (lw_ap1 hap hJr) (fun q hq => by obtain ⟨k9, h9, rfl⟩ := hq; exact hs1 k9 h9) hS (hk.1 0 (by decide)) rfl hl.1 rfl (Nat.le_of_ble_eq_true rfl) dd_L_law_535 ⟨show cells ≤ 600000 by omega, show slots ≤ 7302250 by omega⟩ (fun H locs hP hQ hS => ?_)
  refine va_forget (fun q hq => hS.2.2 q hq) ?_
  have hS : va_S (fun q => s.heap.size ≤ q) s.heap H [] := ⟨hS.1, hS.2.1, fun q hq => (by cases hq)⟩
  refine lv_aload_n hx hb dd_L_law_538 rfl (lv_at hl 1 rfl) ?_
  refine lx_m (As := []) (A0 := fun q => s.heap.size ≤ q) ⟨hx, hb, hml, hown, hts⟩ (rc_begin l D ra ca hJr N O Z B hok2) (bg_cwV 0 hts tw_ml_L_73 tw_im_M_begin tw_se_M_begin tw_in_M tw_co_M_begin rfl rfl th_M_begin ⟨Nat.le_of_ble_eq_true rfl, Nat.le_of_ble_eq_true rfl⟩) hKr hQ hP (lw_ap2 hap) (fun q hq => by obtain ⟨k9, h9, rfl⟩ := hq; exact hs2 k9 h9) hS rfl hl.1 rfl (Nat.le_of_ble_eq_true rfl) dd_L_law_539 ⟨show cells ≤ 600000 by omega, show slots ≤ 7302250 by omega⟩ (fun H locs hQ hP hS => ?_)
  refine va_forget (fun q hq => hS.2.2 q hq) ?_
  have hS : va_S (fun q => s.heap.size ≤ q) s.heap H [] := ⟨hS.1, hS.2.1, fun q hq => (by cases hq)⟩
  rw [hv]
  refine lv_icmp_eq (tgt := 765) hx hb dd_L_law_542 rfl (fun _ => ?_) (fun h => absurd rfl h)
  refine W.widen (k := cells + 1) (n := slots + 11) (by omega) (by omega) ?_
  exact kk H ⟨ks, ad, cb, ra, ca, _, _, _, _, _, _, _, _, rfl, rfl, hKc, hKr, hP, hQ, hJ, hJr, hs1, hs2, hap, hk9, hk29, hR2, cl_F_bg hR (fun _ _ _ _ => rfl) hk hF⟩ hS
set_option maxHeartbeats 2000000 in
set_option maxRecDepth 100000 in
theorem lw_c_finish (l : Launch) {p : Program} {e : Env} {s : State} {m : MethodId} {below : List Frame} {meth : Method} {c : Code} {H : Heap} {cells slots b L i a0 m0 : Nat} {ls : Array Slot} {xs : Nat → Int32} {D : va_G} {Q : State → Prop} (hx : p.tables.exec = Jvm.exec) (hb : c.code = code) (hml : c.maxLocals = 4) (hown : s.vm.findClass rn_L = some m.cls) (hts : ∀ w ∈ bg_tbl, w.before #[Value.ref b] s = true) (hX : va_X b L xs s s.heap) (hbl : b < s.heap.size) (hL : L < 2 ^ 31) (hI : lw_I s D H a0 m0) (hS : va_S (fun q => s.heap.size ≤ q) s.heap H []) (hl : lv_has ls 4 [(3, .int (nI i)), (2, .ref m0), (1, .ref a0), (0, .ref b)]) (hi : i + 3 < L) (hf : cells + 1 ≤ 600000 ∧ slots + 11 ≤ 7302250) (kk : ∀ H1, lw_I s D H1 a0 m0 → va_S (fun q => s.heap.size ≤ q) s.heap H1 [] → W p l e room_1 s m #[Value.ref b] below meth c H1 [] (cells + 1) (slots + 11) Q (F0 m 765 ls [])) : W p l e room_1 s m #[Value.ref b] below meth c H [] cells slots Q (F0 m 547 ls []) := by
  obtain ⟨ks, ad, cb, ra, ca, M, X, F, G, N, O, Z, B, rfl, rfl, hKc, hKr, hP, hQ, hJ, hJr, hs1, hs2, hap, hk, hk2, hR, hF⟩ := hI
  have hbA : ¬ s.heap.size ≤ b := by omega
  have h12 := cl_12 hR.1
  have h160 := cl_160 hR.1
  obtain ⟨hv, hR2⟩ := mt_finish2 hR (o := bd_at (xs (i + 1)) (N 6 0)) (fun k h => bd_at_lt h (by omega))
  obtain ⟨hk9, hk29⟩ := cl_k_cg (N' := nm_finish N O (bd_at (xs (i + 1)) (N 6 0))) hk hk2 (nm_finish_e _ (Or.inl rfl)) (nm_finish_e _ (Or.inr rfl))
  refine lv_aload_n hx hb dd_L_law_547 rfl (lv_at hl 2 rfl) ?_
  refine lw_ld (k := 1) (A := fun q => s.heap.size ≤ q) hx hb hX hbl hbA hS hl (q0 := 3) (q3 := 0) rfl rfl (by omega) hL (by decide) dd_L_law_548 dd_L_law_549 dd_L_law_550 dd_L_law_551 dd_L_law_552 ?_
  refine lx_x (As := [.int (xs (i + 1))]) (rest := []) (A0 := fun q => s.heap.size ≤ q) ⟨hx, hb, hml, hown, hts⟩ (cc_D_finish l D ks ad cb hJ M X F G N O B hR.1 hk hR.2.2.2 (xs (i + 1)) (mt_finpre hR)) (bg_cwV 1 hts tw_ml_L_74 tw_im_D_finish tw_se_D_finish tw_in_D tw_co_D_finish rfl rfl th_D_finish ⟨Nat.le_of_ble_eq_true rfl, Nat.le_of_ble_eq_true rfl⟩) hKc hP hQ (lw_ap1 hap hJr) (fun q hq => by obtain ⟨k9, h9, rfl⟩ := hq; exact hs1 k9 h9) hS (hk.1 0 (by decide)) rfl hl.1 rfl (Nat.le_of_ble_eq_true rfl) dd_L_law_553 ⟨show cells ≤ 600000 by omega, show slots ≤ 7302250 by omega⟩ (fun H locs hP hQ hS => ?_)
  refine va_forget (fun q hq => hS.2.2 q hq) ?_
  have hS : va_S (fun q => s.heap.size ≤ q) s.heap H [] := ⟨hS.1, hS.2.1, fun q hq => (by cases hq)⟩
  refine lv_aload_n hx hb dd_L_law_556 rfl (lv_at hl 1 rfl) ?_
  refine lw_ld (k := 1) (A := fun q => s.heap.size ≤ q) hx hb hX hbl hbA hS hl (q0 := 3) (q3 := 0) rfl rfl (by omega) hL (by decide) dd_L_law_557 dd_L_law_558 dd_L_law_559 dd_L_law_560 dd_L_law_561 ?_
  refine lx_m (As := [.int (xs (i + 1))]) (A0 := fun q => s.heap.size ≤ q) ⟨hx, hb, hml, hown, hts⟩ (rc_finish l D ra ca hJr N O Z B hR.2.2.1.1.2.1 (xs (i + 1))) (bg_cwV 1 hts tw_ml_L_77 tw_im_M_finish tw_se_M_finish tw_in_M tw_co_M_finish rfl rfl th_M_finish ⟨Nat.le_of_ble_eq_true rfl, Nat.le_of_ble_eq_true rfl⟩) hKr hQ hP (lw_ap2 hap) (fun q hq => by obtain ⟨k9, h9, rfl⟩ := hq; exact hs2 k9 h9) hS rfl hl.1 rfl (Nat.le_of_ble_eq_true rfl) dd_L_law_562 ⟨show cells ≤ 600000 by omega, show slots ≤ 7302250 by omega⟩ (fun H locs hQ hP hS => ?_)
  refine va_forget (fun q hq => hS.2.2 q hq) ?_
  have hS : va_S (fun q => s.heap.size ≤ q) s.heap H [] := ⟨hS.1, hS.2.1, fun q hq => (by cases hq)⟩
  rw [hv]
  refine lv_icmp_eq (tgt := 765) hx hb dd_L_law_565 rfl (fun _ => ?_) (fun h => absurd rfl h)
  refine W.widen (k := cells + 1) (n := slots + 11) (by omega) (by omega) ?_
  exact kk H ⟨ks, ad, cb, ra, ca, _, _, _, _, _, _, _, _, rfl, rfl, hKc, hKr, hP, hQ, hJ, hJr, hs1, hs2, hap, hk9, hk29, hR2, cl_F_finish hF hk _⟩ hS
set_option maxHeartbeats 2000000 in
set_option maxRecDepth 100000 in
theorem lw_c_advance (l : Launch) {p : Program} {e : Env} {s : State} {m : MethodId} {below : List Frame} {meth : Method} {c : Code} {H : Heap} {cells slots b L i a0 m0 : Nat} {ls : Array Slot} {xs : Nat → Int32} {D : va_G} {Q : State → Prop} (hx : p.tables.exec = Jvm.exec) (hb : c.code = code) (hml : c.maxLocals = 4) (hown : s.vm.findClass rn_L = some m.cls) (hts : ∀ w ∈ bg_tbl, w.before #[Value.ref b] s = true) (hX : va_X b L xs s s.heap) (hbl : b < s.heap.size) (hL : L < 2 ^ 31) (hI : lw_I s D H a0 m0) (hS : va_S (fun q => s.heap.size ≤ q) s.heap H []) (hl : lv_has ls 4 [(3, .int (nI i)), (2, .ref m0), (1, .ref a0), (0, .ref b)]) (hi : i + 3 < L) (hf : cells + 1 ≤ 600000 ∧ slots + 11 ≤ 7302250) (kk : ∀ H1, lw_I s D H1 a0 m0 → va_S (fun q => s.heap.size ≤ q) s.heap H1 [] → W p l e room_1 s m #[Value.ref b] below meth c H1 [] (cells + 1) (slots + 11) Q (F0 m 765 ls [])) : W p l e room_1 s m #[Value.ref b] below meth c H [] cells slots Q (F0 m 570 ls []) := by
  obtain ⟨ks, ad, cb, ra, ca, M, X, F, G, N, O, Z, B, rfl, rfl, hKc, hKr, hP, hQ, hJ, hJr, hs1, hs2, hap, hk, hk2, hR, hF⟩ := hI
  have hbA : ¬ s.heap.size ≤ b := by omega
  have h12 := cl_12 hR.1
  have h160 := cl_160 hR.1
  obtain ⟨hv, hR2, hok1, hok2⟩ := mt_advance hR (lw_lg (xs (i + 1)) (xs (i + 2)))
  have hFa : cl_F ks ((if lw_lg (xs (i + 1)) (xs (i + 2)) < 0 then (M, F) else cs_av N (cg_adv G (lw_lg (xs (i + 1)) (xs (i + 2)))) 160 M F).2) := by
    split
    · exact hF
    · exact cl_F_av hk hF
  obtain ⟨hk9, hk29⟩ := cl_k_cg (N' := nm_adv N Z (lw_lg (xs (i + 1)) (xs (i + 2)))) hk hk2 (nm_adv_e _ (Or.inl rfl)) (nm_adv_e _ (Or.inr rfl))
  refine lv_aload_n hx hb dd_L_law_570 rfl (lv_at hl 2 rfl) ?_
  refine lw_ld (k := 1) (A := fun q => s.heap.size ≤ q) hx hb hX hbl hbA hS hl (q0 := 3) (q3 := 0) rfl rfl (by omega) hL (by decide) dd_L_law_571 dd_L_law_572 dd_L_law_573 dd_L_law_574 dd_L_law_575 ?_
  refine lv_i2l hx hb dd_L_law_576 rfl ?_
  refine lv_bipush (v := nI 32) hx hb dd_L_law_577 (by decide) ?_
  refine lv_lshl hx hb dd_L_law_579 rfl ?_
  refine lw_ld (k := 2) (A := fun q => s.heap.size ≤ q) hx hb hX hbl hbA hS hl (q0 := 3) (q3 := 0) rfl rfl (by omega) hL (by decide) dd_L_law_580 dd_L_law_581 dd_L_law_582 dd_L_law_583 dd_L_law_584 ?_
  refine lv_i2l hx hb dd_L_law_585 rfl ?_
  refine lv_ldc2 (v := 4294967295) hx hb hown (hts _ tw_k2_L_35) dd_L_law_586 ?_
  refine lv_land hx hb dd_L_law_589 ?_
  refine lv_lor hx hb dd_L_law_590 ?_
  refine lx_x (As := [.long (lw_lg (xs (i + 1)) (xs (i + 2)))]) (rest := []) (A0 := fun q => s.heap.size ≤ q) ⟨hx, hb, hml, hown, hts⟩ (cc_D_advance l D ks ad cb hJ M X F G N O B hR.1 hk (lw_lg (xs (i + 1)) (xs (i + 2))) hok1) (bg_cwV 1 hts tw_ml_L_78 tw_im_D_advance tw_se_D_advance tw_in_D tw_co_D_advance rfl rfl th_D_advance ⟨Nat.le_of_ble_eq_true rfl, Nat.le_of_ble_eq_true rfl⟩) hKc hP hQ (lw_ap1 hap hJr) (fun q hq => by obtain ⟨k9, h9, rfl⟩ := hq; exact hs1 k9 h9) hS (hk.1 0 (by decide)) rfl hl.1 rfl (Nat.le_of_ble_eq_true rfl) dd_L_law_591 ⟨show cells ≤ 600000 by omega, show slots ≤ 7302250 by omega⟩ (fun H locs hP hQ hS => ?_)
  refine va_forget (fun q hq => hS.2.2 q hq) ?_
  have hS : va_S (fun q => s.heap.size ≤ q) s.heap H [] := ⟨hS.1, hS.2.1, fun q hq => (by cases hq)⟩
  refine lv_aload_n hx hb dd_L_law_594 rfl (lv_at hl 1 rfl) ?_
  refine lw_ld (k := 1) (A := fun q => s.heap.size ≤ q) hx hb hX hbl hbA hS hl (q0 := 3) (q3 := 0) rfl rfl (by omega) hL (by decide) dd_L_law_595 dd_L_law_596 dd_L_law_597 dd_L_law_598 dd_L_law_599 ?_
  refine lv_i2l hx hb dd_L_law_600 rfl ?_
  refine lv_bipush (v := nI 32) hx hb dd_L_law_601 (by decide) ?_
  refine lv_lshl hx hb dd_L_law_603 rfl ?_
  refine lw_ld (k := 2) (A := fun q => s.heap.size ≤ q) hx hb hX hbl hbA hS hl (q0 := 3) (q3 := 0) rfl rfl (by omega) hL (by decide) dd_L_law_604 dd_L_law_605 dd_L_law_606 dd_L_law_607 dd_L_law_608 ?_
  refine lv_i2l hx hb dd_L_law_609 rfl ?_
  refine lv_ldc2 (v := 4294967295) hx hb hown (hts _ tw_k2_L_35) dd_L_law_610 ?_
  refine lv_land hx hb dd_L_law_613 ?_
  refine lv_lor hx hb dd_L_law_614 ?_
  refine lx_m (As := [.long (lw_lg (xs (i + 1)) (xs (i + 2)))]) (A0 := fun q => s.heap.size ≤ q) ⟨hx, hb, hml, hown, hts⟩ (rc_advance l D ra ca hJr N O Z B (lw_lg (xs (i + 1)) (xs (i + 2))) hok2) (bg_cwV 1 hts tw_ml_L_82 tw_im_M_advance tw_se_M_advance tw_in_M tw_co_M_advance rfl rfl th_M_advance ⟨Nat.le_of_ble_eq_true rfl, Nat.le_of_ble_eq_true rfl⟩) hKr hQ hP (lw_ap2 hap) (fun q hq => by obtain ⟨k9, h9, rfl⟩ := hq; exact hs2 k9 h9) hS rfl hl.1 rfl (Nat.le_of_ble_eq_true rfl) dd_L_law_615 ⟨show cells ≤ 600000 by omega, show slots ≤ 7302250 by omega⟩ (fun H locs hQ hP hS => ?_)
  refine va_forget (fun q hq => hS.2.2 q hq) ?_
  have hS : va_S (fun q => s.heap.size ≤ q) s.heap H [] := ⟨hS.1, hS.2.1, fun q hq => (by cases hq)⟩
  rw [hv]
  refine lv_icmp_eq (tgt := 765) hx hb dd_L_law_618 rfl (fun _ => ?_) (fun h => absurd rfl h)
  refine W.widen (k := cells + 1) (n := slots + 11) (by omega) (by omega) ?_
  exact kk H ⟨ks, ad, cb, ra, ca, _, _, _, _, _, _, _, _, rfl, rfl, hKc, hKr, hP, hQ, hJ, hJr, hs1, hs2, hap, hk9, hk29, hR2, hFa⟩ hS
set_option maxHeartbeats 2000000 in
set_option maxRecDepth 100000 in
theorem lw_c_retarget (l : Launch) {p : Program} {e : Env} {s : State} {m : MethodId} {below : List Frame} {meth : Method} {c : Code} {H : Heap} {cells slots b L i a0 m0 : Nat} {ls : Array Slot} {xs : Nat → Int32} {D : va_G} {Q : State → Prop} (hx : p.tables.exec = Jvm.exec) (hb : c.code = code) (hml : c.maxLocals = 4) (hown : s.vm.findClass rn_L = some m.cls) (hts : ∀ w ∈ bg_tbl, w.before #[Value.ref b] s = true) (hX : va_X b L xs s s.heap) (hbl : b < s.heap.size) (hL : L < 2 ^ 31) (hI : lw_I s D H a0 m0) (hS : va_S (fun q => s.heap.size ≤ q) s.heap H []) (hl : lv_has ls 4 [(3, .int (nI i)), (2, .ref m0), (1, .ref a0), (0, .ref b)]) (hi : i + 3 < L) (hf : cells + 1 ≤ 600000 ∧ slots + 11 ≤ 7302250) (kk : ∀ H1, lw_I s D H1 a0 m0 → va_S (fun q => s.heap.size ≤ q) s.heap H1 [] → W p l e room_1 s m #[Value.ref b] below meth c H1 [] (cells + 1) (slots + 11) Q (F0 m 765 ls [])) : W p l e room_1 s m #[Value.ref b] below meth c H [] cells slots Q (F0 m 169 ls []) := by
  obtain ⟨ks, ad, cb, ra, ca, M, X, F, G, N, O, Z, B, rfl, rfl, hKc, hKr, hP, hQ, hJ, hJr, hs1, hs2, hap, hk, hk2, hR, hF⟩ := hI
  have hbA : ¬ s.heap.size ≤ b := by omega
  have h12 := cl_12 hR.1
  have h160 := cl_160 hR.1
  obtain ⟨hv, hR2⟩ := mt_retarget2 hR (o := bd_at (xs (i + 1)) (N 1 0)) (p := bd_at (xs (i + 2)) (N 1 0)) (fun k h => bd_at_lt h (by omega)) (fun k h => bd_at_lt h (by omega))
  obtain ⟨hk9, hk29⟩ := cl_k_cg (N' := nm_retarget N (bd_at (xs (i + 1)) (N 1 0)) (bd_at (xs (i + 2)) (N 1 0))) hk hk2 (nm_retarget_e _ _ (Or.inl rfl)) (nm_retarget_e _ _ (Or.inr rfl))
  refine lv_aload_n hx hb dd_L_law_169 rfl (lv_at hl 2 rfl) ?_
  refine lw_ld (k := 1) (A := fun q => s.heap.size ≤ q) hx hb hX hbl hbA hS hl (q0 := 3) (q3 := 0) rfl rfl (by omega) hL (by decide) dd_L_law_170 dd_L_law_171 dd_L_law_172 dd_L_law_173 dd_L_law_174 ?_
  refine lw_ld (k := 2) (A := fun q => s.heap.size ≤ q) hx hb hX hbl hbA hS hl (q0 := 3) (q3 := 0) rfl rfl (by omega) hL (by decide) dd_L_law_175 dd_L_law_176 dd_L_law_177 dd_L_law_178 dd_L_law_179 ?_
  refine lx_x (As := [.int (xs (i + 1)), .int (xs (i + 2))]) (rest := []) (A0 := fun q => s.heap.size ≤ q) ⟨hx, hb, hml, hown, hts⟩ (cc_D_retarget l D ks ad cb hJ M X F G N O B hR.1 hk hR.2.2.2 (xs (i + 1)) (xs (i + 2))) (bg_cwV 2 hts tw_ml_L_26 tw_im_D_retarget tw_se_D_retarget tw_in_D tw_co_D_retarget rfl rfl th_D_retarget ⟨Nat.le_of_ble_eq_true rfl, Nat.le_of_ble_eq_true rfl⟩) hKc hP hQ (lw_ap1 hap hJr) (fun q hq => by obtain ⟨k9, h9, rfl⟩ := hq; exact hs1 k9 h9) hS (hk.1 0 (by decide)) rfl hl.1 rfl (Nat.le_of_ble_eq_true rfl) dd_L_law_180 ⟨show cells ≤ 600000 by omega, show slots ≤ 7302250 by omega⟩ (fun H locs hP hQ hS => ?_)
  refine va_forget (fun q hq => hS.2.2 q hq) ?_
  have hS : va_S (fun q => s.heap.size ≤ q) s.heap H [] := ⟨hS.1, hS.2.1, fun q hq => (by cases hq)⟩
  refine lv_aload_n hx hb dd_L_law_183 rfl (lv_at hl 1 rfl) ?_
  refine lw_ld (k := 1) (A := fun q => s.heap.size ≤ q) hx hb hX hbl hbA hS hl (q0 := 3) (q3 := 0) rfl rfl (by omega) hL (by decide) dd_L_law_184 dd_L_law_185 dd_L_law_186 dd_L_law_187 dd_L_law_188 ?_
  refine lw_ld (k := 2) (A := fun q => s.heap.size ≤ q) hx hb hX hbl hbA hS hl (q0 := 3) (q3 := 0) rfl rfl (by omega) hL (by decide) dd_L_law_189 dd_L_law_190 dd_L_law_191 dd_L_law_192 dd_L_law_193 ?_
  refine lx_m (As := [.int (xs (i + 1)), .int (xs (i + 2))]) (A0 := fun q => s.heap.size ≤ q) ⟨hx, hb, hml, hown, hts⟩ (rc_retarget l D ra ca hJr N O Z B hR.2.2.1.1.2.1 (xs (i + 1)) (xs (i + 2))) (bg_cwV 2 hts tw_ml_L_29 tw_im_M_retarget tw_se_M_retarget tw_in_M tw_co_M_retarget rfl rfl th_M_retarget ⟨Nat.le_of_ble_eq_true rfl, Nat.le_of_ble_eq_true rfl⟩) hKr hQ hP (lw_ap2 hap) (fun q hq => by obtain ⟨k9, h9, rfl⟩ := hq; exact hs2 k9 h9) hS rfl hl.1 rfl (Nat.le_of_ble_eq_true rfl) dd_L_law_194 ⟨show cells ≤ 600000 by omega, show slots ≤ 7302250 by omega⟩ (fun H locs hQ hP hS => ?_)
  refine va_forget (fun q hq => hS.2.2 q hq) ?_
  have hS : va_S (fun q => s.heap.size ≤ q) s.heap H [] := ⟨hS.1, hS.2.1, fun q hq => (by cases hq)⟩
  rw [hv]
  refine lv_icmp_eq (tgt := 765) hx hb dd_L_law_197 rfl (fun _ => ?_) (fun h => absurd rfl h)
  refine W.widen (k := cells + 1) (n := slots + 11) (by omega) (by omega) ?_
  exact kk H ⟨ks, ad, cb, ra, ca, _, _, _, _, _, _, _, _, rfl, rfl, hKc, hKr, hP, hQ, hJ, hJr, hs1, hs2, hap, hk9, hk29, hR2, cl_F_retarget hF hk _ (fun k h => bd_at_lt h (by omega))⟩ hS
