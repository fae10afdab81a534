/-! Part 68: the entry of the law. -/
theorem bd_pl_b (w : Int32) : 1 ≤ bd_pl w ∧ bd_pl w ≤ 8 := by
  by_cases h1 : nI 1 ≤ w
  · by_cases h2 : w ≤ nI 8
    · obtain ⟨b, hb1, hb8, -, hp⟩ := bd_pl_3 h1 h2
      rw [hp]
      exact ⟨hb1, hb8⟩
    · rw [bd_pl_2 h1 h2]
      exact ⟨by decide, by decide⟩
  · rw [bd_pl_1 h1]
    exact ⟨by decide, by decide⟩
theorem cw_lt {D : va_G} {ks : List Nat} {ad : Nat → Nat} {ca : Nat → ClassId} {M : sp_N} {X : sp_B} {F : sp_O} {G : sp_Z} {H : Heap} {k : Nat} (hP : va_P D vw_cl (cw_W ks ad ca M X F G) H) (hk : k ∈ ks) : ad k < H.size := by
  obtain ⟨i, hi⟩ := List.getElem?_of_mem hk
  have h : (cw_W ks ad ca M X F G)[i]? = some (ad k, cw_C ad ca k (M k) (X k) (F k) (G k)) := by
    unfold cw_W
    rw [List.getElem?_map, hi]
    rfl
  exact (hP i _ h).lt
set_option maxHeartbeats 2000000 in
set_option maxRecDepth 100000 in
theorem lw_entry (l : Launch) {p : Program} {e : Env} {s : State} {m : MethodId} {below : List Frame} {meth : Method} {c : Code} {b L : Nat} {xs : Nat → Int32} {Q : State → Prop} (hx : p.tables.exec = Jvm.exec) (hb : c.code = code) (hml : c.maxLocals = 4) (hown : s.vm.findClass rn_L = some m.cls) (htl : ∀ w ∈ lw_tbl, w.before #[Value.ref b] s = true) (hX : va_X b L xs s s.heap) (hbl : b < s.heap.size) (hL : L ≤ 2049) (hend : ∀ (H : Heap) (ls : Array Slot), W p l e room_1 s m #[Value.ref b] below meth c H [] 600000 7302250 Q (F0 m 772 ls [.int (nI 1)])) {ls : Array Slot} (hl : lv_has ls 4 [(0, .ref b)]) : W p l e room_1 s m #[Value.ref b] below meth c s.heap [] 0 0 Q (F0 m 0 ls []) := by
  have hts : ∀ w ∈ bg_tbl, w.before #[Value.ref b] s = true := fun w h => htl w (List.mem_filter.mp h).1
  have hbA : ¬ s.heap.size ≤ b := by omega
  have hL2 : L < 2 ^ 31 := by omega
  obtain ⟨D, hK⟩ := lw_D hts
  have hS : va_S (fun q => s.heap.size ≤ q) s.heap s.heap [] := va_S.rf
  refine cw_new (ci := 3) (fs := [.int (nI 0), .null, .null, .null, .int (nI 0), .int (nI 0), .int (nI 0), .int (nI 0), .long 0]) hx hb hts tw_fs_D fy_D fo_D hown (hts _ tw_cl_L_7) (hts _ tw_is_D) (hts _ tw_in_D) hK rfl (fun j hj => by rcases (show j = 0 ∨ j = 1 ∨ j = 2 ∨ j = 3 ∨ j = 4 ∨ j = 5 ∨ j = 6 ∨ j = 7 ∨ j = 8 by omega) with rfl | rfl | rfl | rfl | rfl | rfl | rfl | rfl | rfl <;> rfl) hS (Nat.le_of_ble_eq_true rfl) (Nat.le_of_ble_eq_true rfl) dd_L_law_0 (fun H hN ho hz hS => ?_)
  refine W.widen (k := 1) (n := 9) (Nat.le_refl _) (Nat.le_refl _) ?_
  refine lv_dup hx hb dd_L_law_3 rfl ?_
  refine lv_aload_n hx hb dd_L_law_4 rfl (lv_at hl 0 rfl) ?_
  refine lv_iconst (v := nI 0) hx hb dd_L_law_5 (by decide) ?_
  refine lx_cell (A := fun q => s.heap.size ≤ q) (rest := [.ref s.heap.size, .ref s.heap.size]) ⟨hx, hb, hml, hown, hts⟩ hL2 ⟨callB_of 2 hts (bg_G tw_co_L_cell) rfl rfl rfl (hts _ tw_in_L) (hts _ tw_ml_L_9) th_L_cell ⟨Nat.le_of_ble_eq_true rfl, Nat.le_of_ble_eq_true rfl⟩, hts _ tw_st_L_cell⟩ hX hbl hbA hS hl.1 rfl (Nat.le_of_ble_eq_true rfl) dd_L_law_6 ⟨Nat.le_of_ble_eq_true rfl, Nat.le_of_ble_eq_true rfl⟩ ?_
  refine lx_dinit (a := s.heap.size) (wi := lw_cell L xs) (rest := [.ref s.heap.size]) (A0 := fun q => s.heap.size ≤ q) ⟨hx, hb, hml, hown, hts⟩ (by omega) ⟨callB_of 1 hts (bg_G tw_co_D_init) rfl rfl rfl (hts _ tw_in_D) (hts _ tw_ml_L_15) th_D_init.2 ⟨Nat.le_of_ble_eq_true rfl, Nat.le_of_ble_eq_true rfl⟩, rfl, hts _ tw_im_D_init⟩ hK hN (va_AO.of (htl _ tw_ao_Q)) (va_AO.of (htl _ tw_ao_B)) (va_AO.of (htl _ tw_ao_G)) (va_Nw.of rfl (htl _ tw_mn_D_46)) hS (fun q h => h) hl.1 rfl (Nat.le_of_ble_eq_true rfl) dd_L_law_9 ⟨Nat.le_of_ble_eq_true rfl, Nat.le_of_ble_eq_true rfl⟩ (fun H1 locs ad cb hJ h0 hge hP hKc hz1 hS => ?_)
  refine W.widen (k := 11) (n := 223) (Nat.le_refl _) (Nat.le_refl _) ?_
  refine va_forget (fun q hq => hS.2.2 q hq) ?_
  have hS : va_S (fun q => s.heap.size ≤ q) s.heap H1 [] := ⟨hS.1, hS.2.1, fun q hq => (by cases hq)⟩
  have hs1 : ∀ k, k ∈ c0_ks → s.heap.size ≤ ad k := fun k hk => by
    by_cases h : k = 0
    · rw [h, h0]; exact Nat.le_refl _
    · have := hge k hk h
      omega
  have hs0 : s.heap.size ≤ H1.size := hS.1
  have hlt : ∀ k, k ∈ c0_ks → ad k < H1.size := fun k hk => cw_lt hP hk
  refine lv_astore_n hx hb dd_L_law_12 rfl hl (by decide) rfl (fun ls hl => ?_)
  have hl : lv_has ls 4 [(1, .ref s.heap.size), (0, .ref b)] := hl
  refine cw_new (ci := 4) (fs := [.int (nI 0), .int (nI 0), .null, .null, .null, .null, .int (nI 0), .null, .null, .null, .null, .null, .null, .null, .null, .null, .int (nI 0), .null, .long 0]) hx hb hts tw_fs_M fy_M fo_M hown (hts _ tw_cl_L_18) (hts _ tw_is_M) (hts _ tw_in_M) hK rfl (fun j hj => by rcases (show j = 0 ∨ j = 1 ∨ j = 2 ∨ j = 3 ∨ j = 4 ∨ j = 5 ∨ j = 6 ∨ j = 7 ∨ j = 8 ∨ j = 9 ∨ j = 10 ∨ j = 11 ∨ j = 12 ∨ j = 13 ∨ j = 14 ∨ j = 15 ∨ j = 16 ∨ j = 17 ∨ j = 18 by omega) with rfl | rfl | rfl | rfl | rfl | rfl | rfl | rfl | rfl | rfl | rfl | rfl | rfl | rfl | rfl | rfl | rfl | rfl | rfl <;> rfl) hS (Nat.le_of_ble_eq_true rfl) (Nat.le_of_ble_eq_true rfl) dd_L_law_13 (fun H2 hN2 ho2 hz2 hS => ?_)
  refine W.widen (k := 12) (n := 242) (Nat.le_refl _) (Nat.le_refl _) ?_
  have hP : va_P D vw_cl (cw_W c0_ks ad cb (c0_M (bd_pl (lw_cell L xs))) c0_X c0_F c0_G) H2 := hP.kept (fun k q hq => ho2 q.1 (hP k q hq).lt)
  refine lv_dup hx hb dd_L_law_16 rfl ?_
  refine lv_aload_n hx hb dd_L_law_17 rfl (lv_at hl 1 rfl) ?_
  refine lv_iconst (v := nI 0) hx hb dd_L_law_18 (by decide) ?_
  refine lx_cell (A := fun q => s.heap.size ≤ q) (rest := [.ref H1.size, .ref H1.size]) ⟨hx, hb, hml, hown, hts⟩ hL2 ⟨callB_of 2 hts (bg_G tw_co_L_cell) rfl rfl rfl (hts _ tw_in_L) (hts _ tw_ml_L_9) th_L_cell ⟨Nat.le_of_ble_eq_true rfl, Nat.le_of_ble_eq_true rfl⟩, hts _ tw_st_L_cell⟩ hX hbl hbA hS hl.1 rfl (Nat.le_of_ble_eq_true rfl) dd_L_law_19 ⟨Nat.le_of_ble_eq_true rfl, Nat.le_of_ble_eq_true rfl⟩ ?_
  refine lx_minit (a := H1.size) (wi := lw_cell L xs) (rest := [.ref H1.size]) (A0 := fun q => s.heap.size ≤ q) ⟨hx, hb, hml, hown, hts⟩ (by omega) ⟨callB_of 1 hts (bg_G tw_co_M_init) rfl rfl rfl (hts _ tw_in_M) (hts _ tw_ml_L_20) th_M_init.2 ⟨Nat.le_of_ble_eq_true rfl, Nat.le_of_ble_eq_true rfl⟩, rfl, hts _ tw_im_M_init⟩ hK hN2 hS (fun q h => by show s.heap.size ≤ q; omega) hl.1 rfl (Nat.le_of_ble_eq_true rfl) dd_L_law_22 ⟨Nat.le_of_ble_eq_true rfl, Nat.le_of_ble_eq_true rfl⟩ (fun H3 locs ra ca hJr hr0 hger hQ hKr hk3 hS => ?_)
  refine W.widen (k := 26) (n := 1734) (Nat.le_refl _) (Nat.le_refl _) ?_
  refine va_forget (fun q hq => hS.2.2 q hq) ?_
  have hS : va_S (fun q => s.heap.size ≤ q) s.heap H3 [] := ⟨hS.1, hS.2.1, fun q hq => (by cases hq)⟩
  have hP : va_P D vw_cl (cw_W c0_ks ad cb (c0_M (bd_pl (lw_cell L xs))) c0_X c0_F c0_G) H3 := hP.kept (fun k q hq => hk3 q.1 (hP k q hq).lt (by
    obtain ⟨j, hj, e9⟩ := cw_get2 hq
    rw [e9]
    exact hlt j hj))
  have hrge : ∀ f, f ∈ rf_u → H1.size ≤ ra f := fun f hf => by
    by_cases h : f = 0
    · rw [h, hr0]; exact Nat.le_refl _
    · have := hger f hf h
      omega
  refine lv_astore_n hx hb dd_L_law_25 rfl hl (by decide) rfl (fun ls hl => ?_)
  have hl : lv_has ls 4 [(2, .ref H1.size), (1, .ref s.heap.size), (0, .ref b)] := hl
  refine lv_iconst (v := nI 1) hx hb dd_L_law_26 (by decide) ?_
  refine lv_istore_n hx hb dd_L_law_27 rfl hl (by decide) rfl (fun ls hl => ?_)
  have hl : lv_has ls 4 [(3, .int (nI 1)), (2, .ref H1.size), (1, .ref s.heap.size), (0, .ref b)] := hl
  obtain ⟨hpl1, hpl8⟩ := bd_pl_b (lw_cell L xs)
  obtain ⟨z1, z2, z3⟩ := mt_zero hpl1 hpl8
  exact lw_loop l hx hb hml hown hts hX hbl hL hend 512 H3 1 26 1734 ls (by omega) (by decide) ⟨c0_ks, ad, cb, ra, ca, _, _, _, _, _, _, _, _, h0, hr0, hKc, hKr, hP, hQ, hJ, hJr, hs1, (fun f hf => Nat.le_trans hs0 (hrge f hf)), (fun k f hk hf => by have := hlt k hk; have := hrge f hf; omega), z1, z2, z3, cl_F_0⟩ hS hl (by decide) (by decide)
