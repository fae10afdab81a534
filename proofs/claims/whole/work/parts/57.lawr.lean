/-! Part 57: the cases of the law that read. By wip/gen/gen_law.py. -/
set_option maxHeartbeats 2000000 in
set_option maxRecDepth 100000 in
theorem lw_c_state (l : Launch) {p : Program} {e : Env} {s : State} {m : MethodId} {below : List Frame} {meth : Method} {c : Code} {H : Heap} {cells slots b L i a0 m0 : Nat} {ls : Array Slot} {xs : Nat → Int32} {D : va_G} {Q : State → Prop} (hx : p.tables.exec = Jvm.exec) (hb : c.code = code) (hml : c.maxLocals = 4) (hown : s.vm.findClass rn_L = some m.cls) (hts : ∀ w ∈ bg_tbl, w.before #[Value.ref b] s = true) (hX : va_X b L xs s s.heap) (hbl : b < s.heap.size) (hL : L < 2 ^ 31) (hI : lw_I s D H a0 m0) (hS : va_S (fun q => s.heap.size ≤ q) s.heap H []) (hl : lv_has ls 4 [(3, .int (nI i)), (2, .ref m0), (1, .ref a0), (0, .ref b)]) (hi : i + 3 < L) (hf : cells + 1 ≤ 600000 ∧ slots + 11 ≤ 7302250) (kk : ∀ H1, lw_I s D H1 a0 m0 → va_S (fun q => s.heap.size ≤ q) s.heap H1 [] → W p l e room_1 s m #[Value.ref b] below meth c H1 [] (cells + 1) (slots + 11) Q (F0 m 765 ls [])) : W p l e room_1 s m #[Value.ref b] below meth c H [] cells slots Q (F0 m 637 ls []) := by
  obtain ⟨ks, ad, cb, ra, ca, M, X, F, G, N, O, Z, B, rfl, rfl, hKc, hKr, hP, hQ, hJ, hJr, hs1, hs2, hap, hk, hk2, hR, hF⟩ := hI
  have hbA : ¬ s.heap.size ≤ b := by omega
  have h12 := cl_12 hR.1
  have h160 := cl_160 hR.1
  refine lv_aload_n hx hb dd_L_law_637 rfl (lv_at hl 2 rfl) ?_
  refine lw_ld (k := 1) (A := fun q => s.heap.size ≤ q) hx hb hX hbl hbA hS hl (q0 := 3) (q3 := 0) rfl rfl (by omega) hL (by decide) dd_L_law_638 dd_L_law_639 dd_L_law_640 dd_L_law_641 dd_L_law_642 ?_
  refine cw_calli (k := 0) (C := rn_D) (T := ft_D) (NF := 9) (As := [.int (xs (i + 1))]) (rest := []) ⟨hx, hb, hml, hown, hts⟩ (cc_D_state l D ks ad cb M X F G N O B hR.1 hk hR.2.2.2 (xs (i + 1))) (bg_cwV 1 hts tw_ml_L_88 tw_im_D_state tw_se_D_state tw_in_D tw_co_D_state rfl rfl th_D_state ⟨Nat.le_of_ble_eq_true rfl, Nat.le_of_ble_eq_true rfl⟩) hKc hP (hk.1 0 (by decide)) (cw_C0 ad cb _ _ _ _) rfl rfl hl.1 rfl (Nat.le_of_ble_eq_true rfl) dd_L_law_643 ⟨show cells ≤ 600000 by omega, show slots ≤ 7302250 by omega⟩ ?_
  refine lv_aload_n hx hb dd_L_law_646 rfl (lv_at hl 1 rfl) ?_
  refine lw_ld (k := 1) (A := fun q => s.heap.size ≤ q) hx hb hX hbl hbA hS hl (q0 := 3) (q3 := 0) rfl rfl (by omega) hL (by decide) dd_L_law_647 dd_L_law_648 dd_L_law_649 dd_L_law_650 dd_L_law_651 ?_
  refine lx_mr (As := [.int (xs (i + 1))]) ⟨hx, hb, hml, hown, hts⟩ (rc_state l D ra ca N O Z B hR.2.2.1.1.2.1 (xs (i + 1))) (bg_cwV 1 hts tw_ml_L_92 tw_im_M_state tw_se_M_state tw_in_M tw_co_M_state rfl rfl th_M_state ⟨Nat.le_of_ble_eq_true rfl, Nat.le_of_ble_eq_true rfl⟩) hKr hQ rfl hl.1 rfl (Nat.le_of_ble_eq_true rfl) dd_L_law_652 ⟨show cells ≤ 600000 by omega, show slots ≤ 7302250 by omega⟩ ?_
  rw [mr_state hR.2.1 h160 _]
  refine lv_icmp_eq (tgt := 765) hx hb dd_L_law_655 rfl (fun _ => ?_) (fun h => absurd rfl h)
  refine W.widen (k := cells + 1) (n := slots + 11) (by omega) (by omega) ?_
  exact kk H ⟨ks, ad, cb, ra, ca, M, X, F, G, N, O, Z, B, rfl, rfl, hKc, hKr, hP, hQ, hJ, hJr, hs1, hs2, hap, hk, hk2, hR, hF⟩ hS
set_option maxHeartbeats 2000000 in
set_option maxRecDepth 100000 in
theorem lw_c_queued (l : Launch) {p : Program} {e : Env} {s : State} {m : MethodId} {below : List Frame} {meth : Method} {c : Code} {H : Heap} {cells slots b L i a0 m0 : Nat} {ls : Array Slot} {xs : Nat → Int32} {D : va_G} {Q : State → Prop} (hx : p.tables.exec = Jvm.exec) (hb : c.code = code) (hml : c.maxLocals = 4) (hown : s.vm.findClass rn_L = some m.cls) (hts : ∀ w ∈ bg_tbl, w.before #[Value.ref b] s = true) (hX : va_X b L xs s s.heap) (hbl : b < s.heap.size) (hL : L < 2 ^ 31) (hI : lw_I s D H a0 m0) (hS : va_S (fun q => s.heap.size ≤ q) s.heap H []) (hl : lv_has ls 4 [(3, .int (nI i)), (2, .ref m0), (1, .ref a0), (0, .ref b)]) (hi : i + 3 < L) (hf : cells + 1 ≤ 600000 ∧ slots + 11 ≤ 7302250) (kk : ∀ H1, lw_I s D H1 a0 m0 → va_S (fun q => s.heap.size ≤ q) s.heap H1 [] → W p l e room_1 s m #[Value.ref b] below meth c H1 [] (cells + 1) (slots + 11) Q (F0 m 765 ls [])) : W p l e room_1 s m #[Value.ref b] below meth c H [] cells slots Q (F0 m 660 ls []) := by
  obtain ⟨ks, ad, cb, ra, ca, M, X, F, G, N, O, Z, B, rfl, rfl, hKc, hKr, hP, hQ, hJ, hJr, hs1, hs2, hap, hk, hk2, hR, hF⟩ := hI
  have hbA : ¬ s.heap.size ≤ b := by omega
  have h12 := cl_12 hR.1
  have h160 := cl_160 hR.1
  refine lv_aload_n hx hb dd_L_law_660 rfl (lv_at hl 2 rfl) ?_
  refine lw_ld (k := 1) (A := fun q => s.heap.size ≤ q) hx hb hX hbl hbA hS hl (q0 := 3) (q3 := 0) rfl rfl (by omega) hL (by decide) dd_L_law_661 dd_L_law_662 dd_L_law_663 dd_L_law_664 dd_L_law_665 ?_
  refine cw_calli (k := 0) (C := rn_D) (T := ft_D) (NF := 9) (As := [.int (xs (i + 1))]) (rest := []) ⟨hx, hb, hml, hown, hts⟩ (cc_D_queued l D ks ad cb M X F G N O B hR.1 hk hR.2.2.2 (xs (i + 1))) (bg_cwV 1 hts tw_ml_L_93 tw_im_D_queued tw_se_D_queued tw_in_D tw_co_D_queued rfl rfl th_D_queued ⟨Nat.le_of_ble_eq_true rfl, Nat.le_of_ble_eq_true rfl⟩) hKc hP (hk.1 0 (by decide)) (cw_C0 ad cb _ _ _ _) rfl rfl hl.1 rfl (Nat.le_of_ble_eq_true rfl) dd_L_law_666 ⟨show cells ≤ 600000 by omega, show slots ≤ 7302250 by omega⟩ ?_
  refine lv_aload_n hx hb dd_L_law_669 rfl (lv_at hl 1 rfl) ?_
  refine lw_ld (k := 1) (A := fun q => s.heap.size ≤ q) hx hb hX hbl hbA hS hl (q0 := 3) (q3 := 0) rfl rfl (by omega) hL (by decide) dd_L_law_670 dd_L_law_671 dd_L_law_672 dd_L_law_673 dd_L_law_674 ?_
  refine lx_mr (As := [.int (xs (i + 1))]) ⟨hx, hb, hml, hown, hts⟩ (rc_queued l D ra ca N O Z B hR.2.2.1.1.2.1 (xs (i + 1))) (bg_cwV 1 hts tw_ml_L_96 tw_im_M_queued tw_se_M_queued tw_in_M tw_co_M_queued rfl rfl th_M_queued ⟨Nat.le_of_ble_eq_true rfl, Nat.le_of_ble_eq_true rfl⟩) hKr hQ rfl hl.1 rfl (Nat.le_of_ble_eq_true rfl) dd_L_law_675 ⟨show cells ≤ 600000 by omega, show slots ≤ 7302250 by omega⟩ ?_
  rw [mr_queued hR.2.1 h12 _]
  refine lv_icmp_eq (tgt := 765) hx hb dd_L_law_678 rfl (fun _ => ?_) (fun h => absurd rfl h)
  refine W.widen (k := cells + 1) (n := slots + 11) (by omega) (by omega) ?_
  exact kk H ⟨ks, ad, cb, ra, ca, M, X, F, G, N, O, Z, B, rfl, rfl, hKc, hKr, hP, hQ, hJ, hJr, hs1, hs2, hap, hk, hk2, hR, hF⟩ hS
set_option maxHeartbeats 2000000 in
set_option maxRecDepth 100000 in
theorem lw_c_through (l : Launch) {p : Program} {e : Env} {s : State} {m : MethodId} {below : List Frame} {meth : Method} {c : Code} {H : Heap} {cells slots b L i a0 m0 : Nat} {ls : Array Slot} {xs : Nat → Int32} {D : va_G} {Q : State → Prop} (hx : p.tables.exec = Jvm.exec) (hb : c.code = code) (hml : c.maxLocals = 4) (hown : s.vm.findClass rn_L = some m.cls) (hts : ∀ w ∈ bg_tbl, w.before #[Value.ref b] s = true) (hX : va_X b L xs s s.heap) (hbl : b < s.heap.size) (hL : L < 2 ^ 31) (hI : lw_I s D H a0 m0) (hS : va_S (fun q => s.heap.size ≤ q) s.heap H []) (hl : lv_has ls 4 [(3, .int (nI i)), (2, .ref m0), (1, .ref a0), (0, .ref b)]) (hi : i + 3 < L) (hf : cells + 1 ≤ 600000 ∧ slots + 11 ≤ 7302250) (kk : ∀ H1, lw_I s D H1 a0 m0 → va_S (fun q => s.heap.size ≤ q) s.heap H1 [] → W p l e room_1 s m #[Value.ref b] below meth c H1 [] (cells + 1) (slots + 11) Q (F0 m 765 ls [])) : W p l e room_1 s m #[Value.ref b] below meth c H [] cells slots Q (F0 m 683 ls []) := by
  obtain ⟨ks, ad, cb, ra, ca, M, X, F, G, N, O, Z, B, rfl, rfl, hKc, hKr, hP, hQ, hJ, hJr, hs1, hs2, hap, hk, hk2, hR, hF⟩ := hI
  have hbA : ¬ s.heap.size ≤ b := by omega
  have h12 := cl_12 hR.1
  have h160 := cl_160 hR.1
  refine lv_aload_n hx hb dd_L_law_683 rfl (lv_at hl 2 rfl) ?_
  refine lw_ld (k := 1) (A := fun q => s.heap.size ≤ q) hx hb hX hbl hbA hS hl (q0 := 3) (q3 := 0) rfl rfl (by omega) hL (by decide) dd_L_law_684 dd_L_law_685 dd_L_law_686 dd_L_law_687 dd_L_law_688 ?_
  refine cw_calli (k := 0) (C := rn_D) (T := ft_D) (NF := 9) (As := [.int (xs (i + 1))]) (rest := []) ⟨hx, hb, hml, hown, hts⟩ (cc_D_through l D ks ad cb M X F G N O B hR.1 hk hR.2.2.2 (xs (i + 1))) (bg_cwV 1 hts tw_ml_L_97 tw_im_D_through tw_se_D_through tw_in_D tw_co_D_through rfl rfl th_D_through ⟨Nat.le_of_ble_eq_true rfl, Nat.le_of_ble_eq_true rfl⟩) hKc hP (hk.1 0 (by decide)) (cw_C0 ad cb _ _ _ _) rfl rfl hl.1 rfl (Nat.le_of_ble_eq_true rfl) dd_L_law_689 ⟨show cells ≤ 600000 by omega, show slots ≤ 7302250 by omega⟩ ?_
  refine lv_aload_n hx hb dd_L_law_692 rfl (lv_at hl 1 rfl) ?_
  refine lw_ld (k := 1) (A := fun q => s.heap.size ≤ q) hx hb hX hbl hbA hS hl (q0 := 3) (q3 := 0) rfl rfl (by omega) hL (by decide) dd_L_law_693 dd_L_law_694 dd_L_law_695 dd_L_law_696 dd_L_law_697 ?_
  refine lx_mr (As := [.int (xs (i + 1))]) ⟨hx, hb, hml, hown, hts⟩ (rc_through l D ra ca N O Z B hR.2.2.1.1.2.1 (xs (i + 1))) (bg_cwV 1 hts tw_ml_L_100 tw_im_M_through tw_se_M_through tw_in_M tw_co_M_through rfl rfl th_M_through ⟨Nat.le_of_ble_eq_true rfl, Nat.le_of_ble_eq_true rfl⟩) hKr hQ rfl hl.1 rfl (Nat.le_of_ble_eq_true rfl) dd_L_law_698 ⟨show cells ≤ 600000 by omega, show slots ≤ 7302250 by omega⟩ ?_
  rw [mr_through hR.2.1 h12 _]
  refine lv_icmp_eq (tgt := 765) hx hb dd_L_law_701 rfl (fun _ => ?_) (fun h => absurd rfl h)
  refine W.widen (k := cells + 1) (n := slots + 11) (by omega) (by omega) ?_
  exact kk H ⟨ks, ad, cb, ra, ca, M, X, F, G, N, O, Z, B, rfl, rfl, hKc, hKr, hP, hQ, hJ, hJr, hs1, hs2, hap, hk, hk2, hR, hF⟩ hS
set_option maxHeartbeats 2000000 in
set_option maxRecDepth 100000 in
theorem lw_c_peak (l : Launch) {p : Program} {e : Env} {s : State} {m : MethodId} {below : List Frame} {meth : Method} {c : Code} {H : Heap} {cells slots b L i a0 m0 : Nat} {ls : Array Slot} {xs : Nat → Int32} {D : va_G} {Q : State → Prop} (hx : p.tables.exec = Jvm.exec) (hb : c.code = code) (hml : c.maxLocals = 4) (hown : s.vm.findClass rn_L = some m.cls) (hts : ∀ w ∈ bg_tbl, w.before #[Value.ref b] s = true) (hX : va_X b L xs s s.heap) (hbl : b < s.heap.size) (hL : L < 2 ^ 31) (hI : lw_I s D H a0 m0) (hS : va_S (fun q => s.heap.size ≤ q) s.heap H []) (hl : lv_has ls 4 [(3, .int (nI i)), (2, .ref m0), (1, .ref a0), (0, .ref b)]) (hi : i + 3 < L) (hf : cells + 1 ≤ 600000 ∧ slots + 11 ≤ 7302250) (kk : ∀ H1, lw_I s D H1 a0 m0 → va_S (fun q => s.heap.size ≤ q) s.heap H1 [] → W p l e room_1 s m #[Value.ref b] below meth c H1 [] (cells + 1) (slots + 11) Q (F0 m 765 ls [])) : W p l e room_1 s m #[Value.ref b] below meth c H [] cells slots Q (F0 m 706 ls []) := by
  obtain ⟨ks, ad, cb, ra, ca, M, X, F, G, N, O, Z, B, rfl, rfl, hKc, hKr, hP, hQ, hJ, hJr, hs1, hs2, hap, hk, hk2, hR, hF⟩ := hI
  have hbA : ¬ s.heap.size ≤ b := by omega
  have h12 := cl_12 hR.1
  have h160 := cl_160 hR.1
  refine lv_aload_n hx hb dd_L_law_706 rfl (lv_at hl 2 rfl) ?_
  refine lw_ld (k := 1) (A := fun q => s.heap.size ≤ q) hx hb hX hbl hbA hS hl (q0 := 3) (q3 := 0) rfl rfl (by omega) hL (by decide) dd_L_law_707 dd_L_law_708 dd_L_law_709 dd_L_law_710 dd_L_law_711 ?_
  refine cw_calli (k := 0) (C := rn_D) (T := ft_D) (NF := 9) (As := [.int (xs (i + 1))]) (rest := []) ⟨hx, hb, hml, hown, hts⟩ (cc_D_peak l D ks ad cb M X F G N O B hR.1 hk hR.2.2.2 (xs (i + 1))) (bg_cwV 1 hts tw_ml_L_101 tw_im_D_peak tw_se_D_peak tw_in_D tw_co_D_peak rfl rfl th_D_peak ⟨Nat.le_of_ble_eq_true rfl, Nat.le_of_ble_eq_true rfl⟩) hKc hP (hk.1 0 (by decide)) (cw_C0 ad cb _ _ _ _) rfl rfl hl.1 rfl (Nat.le_of_ble_eq_true rfl) dd_L_law_712 ⟨show cells ≤ 600000 by omega, show slots ≤ 7302250 by omega⟩ ?_
  refine lv_aload_n hx hb dd_L_law_715 rfl (lv_at hl 1 rfl) ?_
  refine lw_ld (k := 1) (A := fun q => s.heap.size ≤ q) hx hb hX hbl hbA hS hl (q0 := 3) (q3 := 0) rfl rfl (by omega) hL (by decide) dd_L_law_716 dd_L_law_717 dd_L_law_718 dd_L_law_719 dd_L_law_720 ?_
  refine lx_mr (As := [.int (xs (i + 1))]) ⟨hx, hb, hml, hown, hts⟩ (rc_peak l D ra ca N O Z B hR.2.2.1.1.2.1 (xs (i + 1))) (bg_cwV 1 hts tw_ml_L_104 tw_im_M_peak tw_se_M_peak tw_in_M tw_co_M_peak rfl rfl th_M_peak ⟨Nat.le_of_ble_eq_true rfl, Nat.le_of_ble_eq_true rfl⟩) hKr hQ rfl hl.1 rfl (Nat.le_of_ble_eq_true rfl) dd_L_law_721 ⟨show cells ≤ 600000 by omega, show slots ≤ 7302250 by omega⟩ ?_
  rw [mr_peak hR.2.1 h12 _]
  refine lv_icmp_eq (tgt := 765) hx hb dd_L_law_724 rfl (fun _ => ?_) (fun h => absurd rfl h)
  refine W.widen (k := cells + 1) (n := slots + 11) (by omega) (by omega) ?_
  exact kk H ⟨ks, ad, cb, ra, ca, M, X, F, G, N, O, Z, B, rfl, rfl, hKc, hKr, hP, hQ, hJ, hJr, hs1, hs2, hap, hk, hk2, hR, hF⟩ hS
set_option maxHeartbeats 2000000 in
set_option maxRecDepth 100000 in
theorem lw_c_count (l : Launch) {p : Program} {e : Env} {s : State} {m : MethodId} {below : List Frame} {meth : Method} {c : Code} {H : Heap} {cells slots b L i a0 m0 : Nat} {ls : Array Slot} {xs : Nat → Int32} {D : va_G} {Q : State → Prop} (hx : p.tables.exec = Jvm.exec) (hb : c.code = code) (hml : c.maxLocals = 4) (hown : s.vm.findClass rn_L = some m.cls) (hts : ∀ w ∈ bg_tbl, w.before #[Value.ref b] s = true) (hX : va_X b L xs s s.heap) (hbl : b < s.heap.size) (hL : L < 2 ^ 31) (hI : lw_I s D H a0 m0) (hS : va_S (fun q => s.heap.size ≤ q) s.heap H []) (hl : lv_has ls 4 [(3, .int (nI i)), (2, .ref m0), (1, .ref a0), (0, .ref b)]) (hi : i + 3 < L) (hf : cells + 1 ≤ 600000 ∧ slots + 11 ≤ 7302250) (kk : ∀ H1, lw_I s D H1 a0 m0 → va_S (fun q => s.heap.size ≤ q) s.heap H1 [] → W p l e room_1 s m #[Value.ref b] below meth c H1 [] (cells + 1) (slots + 11) Q (F0 m 765 ls [])) : W p l e room_1 s m #[Value.ref b] below meth c H [] cells slots Q (F0 m 729 ls []) := by
  obtain ⟨ks, ad, cb, ra, ca, M, X, F, G, N, O, Z, B, rfl, rfl, hKc, hKr, hP, hQ, hJ, hJr, hs1, hs2, hap, hk, hk2, hR, hF⟩ := hI
  have hbA : ¬ s.heap.size ≤ b := by omega
  have h12 := cl_12 hR.1
  have h160 := cl_160 hR.1
  refine lv_aload_n hx hb dd_L_law_729 rfl (lv_at hl 2 rfl) ?_
  refine lw_ld (k := 1) (A := fun q => s.heap.size ≤ q) hx hb hX hbl hbA hS hl (q0 := 3) (q3 := 0) rfl rfl (by omega) hL (by decide) dd_L_law_730 dd_L_law_731 dd_L_law_732 dd_L_law_733 dd_L_law_734 ?_
  refine cw_calli (k := 0) (C := rn_D) (T := ft_D) (NF := 9) (As := [.int (xs (i + 1))]) (rest := []) ⟨hx, hb, hml, hown, hts⟩ (cc_D_count l D ks ad cb M X F G N O B hR.1 hk hR.2.2.2 (xs (i + 1))) (bg_cwV 1 hts tw_ml_L_105 tw_im_D_count tw_se_D_count tw_in_D tw_co_D_count rfl rfl th_D_count ⟨Nat.le_of_ble_eq_true rfl, Nat.le_of_ble_eq_true rfl⟩) hKc hP (hk.1 0 (by decide)) (cw_C0 ad cb _ _ _ _) rfl rfl hl.1 rfl (Nat.le_of_ble_eq_true rfl) dd_L_law_735 ⟨show cells ≤ 600000 by omega, show slots ≤ 7302250 by omega⟩ ?_
  refine lv_aload_n hx hb dd_L_law_738 rfl (lv_at hl 1 rfl) ?_
  refine lw_ld (k := 1) (A := fun q => s.heap.size ≤ q) hx hb hX hbl hbA hS hl (q0 := 3) (q3 := 0) rfl rfl (by omega) hL (by decide) dd_L_law_739 dd_L_law_740 dd_L_law_741 dd_L_law_742 dd_L_law_743 ?_
  refine lx_mr (As := [.int (xs (i + 1))]) ⟨hx, hb, hml, hown, hts⟩ (rc_count l D ra ca N O Z B hR.2.2.1.1.2.1 (xs (i + 1))) (bg_cwV 1 hts tw_ml_L_108 tw_im_M_count tw_se_M_count tw_in_M tw_co_M_count rfl rfl th_M_count ⟨Nat.le_of_ble_eq_true rfl, Nat.le_of_ble_eq_true rfl⟩) hKr hQ rfl hl.1 rfl (Nat.le_of_ble_eq_true rfl) dd_L_law_744 ⟨show cells ≤ 600000 by omega, show slots ≤ 7302250 by omega⟩ ?_
  rw [mr_count hR.2.1 _]
  refine lv_icmp_eq (tgt := 765) hx hb dd_L_law_747 rfl (fun _ => ?_) (fun h => absurd rfl h)
  refine W.widen (k := cells + 1) (n := slots + 11) (by omega) (by omega) ?_
  exact kk H ⟨ks, ad, cb, ra, ca, M, X, F, G, N, O, Z, B, rfl, rfl, hKc, hKr, hP, hQ, hJ, hJr, hs1, hs2, hap, hk, hk2, hR, hF⟩ hS
set_option maxHeartbeats 2000000 in
set_option maxRecDepth 100000 in
theorem lw_c_ready (l : Launch) {p : Program} {e : Env} {s : State} {m : MethodId} {below : List Frame} {meth : Method} {c : Code} {H : Heap} {cells slots b L i a0 m0 : Nat} {ls : Array Slot} {xs : Nat → Int32} {D : va_G} {Q : State → Prop} (hx : p.tables.exec = Jvm.exec) (hb : c.code = code) (hml : c.maxLocals = 4) (hown : s.vm.findClass rn_L = some m.cls) (hts : ∀ w ∈ bg_tbl, w.before #[Value.ref b] s = true) (hX : va_X b L xs s s.heap) (hbl : b < s.heap.size) (hL : L < 2 ^ 31) (hI : lw_I s D H a0 m0) (hS : va_S (fun q => s.heap.size ≤ q) s.heap H []) (hl : lv_has ls 4 [(3, .int (nI i)), (2, .ref m0), (1, .ref a0), (0, .ref b)]) (hi : i + 3 < L) (hf : cells + 1 ≤ 600000 ∧ slots + 11 ≤ 7302250) (kk : ∀ H1, lw_I s D H1 a0 m0 → va_S (fun q => s.heap.size ≤ q) s.heap H1 [] → W p l e room_1 s m #[Value.ref b] below meth c H1 [] (cells + 1) (slots + 11) Q (F0 m 765 ls [])) : W p l e room_1 s m #[Value.ref b] below meth c H [] cells slots Q (F0 m 752 ls []) := by
  obtain ⟨ks, ad, cb, ra, ca, M, X, F, G, N, O, Z, B, rfl, rfl, hKc, hKr, hP, hQ, hJ, hJr, hs1, hs2, hap, hk, hk2, hR, hF⟩ := hI
  have hbA : ¬ s.heap.size ≤ b := by omega
  have h12 := cl_12 hR.1
  have h160 := cl_160 hR.1
  refine lv_aload_n hx hb dd_L_law_752 rfl (lv_at hl 2 rfl) ?_
  refine cw_calli (k := 0) (C := rn_D) (T := ft_D) (NF := 9) (As := []) (rest := []) ⟨hx, hb, hml, hown, hts⟩ (cc_D_ready l D ks ad cb M X F G N O B hR.1 hk hR.2.2.2 hJ) (bg_cwV 0 hts tw_ml_L_109 tw_im_D_ready tw_se_D_ready tw_in_D tw_co_D_ready rfl rfl th_D_ready ⟨Nat.le_of_ble_eq_true rfl, Nat.le_of_ble_eq_true rfl⟩) hKc hP (hk.1 0 (by decide)) (cw_C0 ad cb _ _ _ _) rfl rfl hl.1 rfl (Nat.le_of_ble_eq_true rfl) dd_L_law_753 ⟨show cells ≤ 600000 by omega, show slots ≤ 7302250 by omega⟩ ?_
  refine lv_aload_n hx hb dd_L_law_756 rfl (lv_at hl 1 rfl) ?_
  refine lx_mr (As := []) ⟨hx, hb, hml, hown, hts⟩ (rc_ready l D ra ca N O Z B hR.2.2.1.1.2.1 ) (bg_cwV 0 hts tw_ml_L_112 tw_im_M_ready tw_se_M_ready tw_in_M tw_co_M_ready rfl rfl th_M_ready ⟨Nat.le_of_ble_eq_true rfl, Nat.le_of_ble_eq_true rfl⟩) hKr hQ rfl hl.1 rfl (Nat.le_of_ble_eq_true rfl) dd_L_law_757 ⟨show cells ≤ 600000 by omega, show slots ≤ 7302250 by omega⟩ ?_
  rw [mr_y hR.1 hR.2.1 hR.2.2.1]
  refine lv_icmp_eq (tgt := 765) hx hb dd_L_law_760 rfl (fun _ => ?_) (fun h => absurd rfl h)
  refine W.widen (k := cells + 1) (n := slots + 11) (by omega) (by omega) ?_
  exact kk H ⟨ks, ad, cb, ra, ca, M, X, F, G, N, O, Z, B, rfl, rfl, hKc, hKr, hP, hQ, hJ, hJr, hs1, hs2, hap, hk, hk2, hR, hF⟩ hS
set_option maxHeartbeats 2000000 in
set_option maxRecDepth 100000 in
theorem lw_c_now (l : Launch) {p : Program} {e : Env} {s : State} {m : MethodId} {below : List Frame} {meth : Method} {c : Code} {H : Heap} {cells slots b L i a0 m0 : Nat} {ls : Array Slot} {xs : Nat → Int32} {D : va_G} {Q : State → Prop} (hx : p.tables.exec = Jvm.exec) (hb : c.code = code) (hml : c.maxLocals = 4) (hown : s.vm.findClass rn_L = some m.cls) (hts : ∀ w ∈ bg_tbl, w.before #[Value.ref b] s = true) (hX : va_X b L xs s s.heap) (hbl : b < s.heap.size) (hL : L < 2 ^ 31) (hI : lw_I s D H a0 m0) (hS : va_S (fun q => s.heap.size ≤ q) s.heap H []) (hl : lv_has ls 4 [(3, .int (nI i)), (2, .ref m0), (1, .ref a0), (0, .ref b)]) (hi : i + 3 < L) (hf : cells + 1 ≤ 600000 ∧ slots + 11 ≤ 7302250) (kk : ∀ H1, lw_I s D H1 a0 m0 → va_S (fun q => s.heap.size ≤ q) s.heap H1 [] → W p l e room_1 s m #[Value.ref b] below meth c H1 [] (cells + 1) (slots + 11) Q (F0 m 765 ls [])) : W p l e room_1 s m #[Value.ref b] below meth c H [] cells slots Q (F0 m 623 ls []) := by
  obtain ⟨ks, ad, cb, ra, ca, M, X, F, G, N, O, Z, B, rfl, rfl, hKc, hKr, hP, hQ, hJ, hJr, hs1, hs2, hap, hk, hk2, hR, hF⟩ := hI
  have hbA : ¬ s.heap.size ≤ b := by omega
  have h12 := cl_12 hR.1
  have h160 := cl_160 hR.1
  refine lv_aload_n hx hb dd_L_law_623 rfl (lv_at hl 2 rfl) ?_
  refine cw_calll (k := 0) (C := rn_D) (T := ft_D) (NF := 9) (As := []) (rest := []) ⟨hx, hb, hml, hown, hts⟩ (cc_D_now l D ks ad cb M X F G N O B hR.1 hk hR.2.2.2 ) (bg_cwV 0 hts tw_ml_L_83 tw_im_D_now tw_se_D_now tw_in_D tw_co_D_now rfl rfl th_D_now ⟨Nat.le_of_ble_eq_true rfl, Nat.le_of_ble_eq_true rfl⟩) hKc hP (hk.1 0 (by decide)) (cw_C0 ad cb _ _ _ _) rfl rfl hl.1 rfl (Nat.le_of_ble_eq_true rfl) dd_L_law_624 ⟨show cells ≤ 600000 by omega, show slots ≤ 7302250 by omega⟩ ?_
  refine lv_aload_n hx hb dd_L_law_627 rfl (lv_at hl 1 rfl) ?_
  refine lx_ml (As := []) ⟨hx, hb, hml, hown, hts⟩ (rc_now l D ra ca N O Z B  ) (bg_cwV 0 hts tw_ml_L_87 tw_im_M_now tw_se_M_now tw_in_M tw_co_M_now rfl rfl th_M_now ⟨Nat.le_of_ble_eq_true rfl, Nat.le_of_ble_eq_true rfl⟩) hKr hQ rfl hl.1 rfl (Nat.le_of_ble_eq_true rfl) dd_L_law_628 ⟨show cells ≤ 600000 by omega, show slots ≤ 7302250 by omega⟩ ?_
  rw [hR.2.1.1.2.2.2]
  refine W.lcmp hx hb dd_L_law_631 ?_
  refine lv_if_eq (tgt := 765) hx hb dd_L_law_632 rfl (fun _ => ?_) (fun h => absurd (by simp [lg_cmp]) h)
  refine W.widen (k := cells + 1) (n := slots + 11) (by omega) (by omega) ?_
  exact kk H ⟨ks, ad, cb, ra, ca, M, X, F, G, N, O, Z, B, rfl, rfl, hKc, hKr, hP, hQ, hJ, hJr, hs1, hs2, hap, hk, hk2, hR, hF⟩ hS
