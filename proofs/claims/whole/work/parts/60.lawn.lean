/-! Part 60: the cases of the law that make a block. By wip/gen/gen_law.py. -/
theorem bd_gr_lt {g : Int32} {k : Nat} (h : bd_gr g = some (some k)) : k < 4 := by
  by_cases h1 : g = -1
  · rw [bd_gr_b h1] at h; cases h
  · cases h2 : bd_at g 4 with
    | none => rw [bd_gr_c h2 h1] at h; cases h
    | some j => rw [bd_gr_a h2] at h; cases h; exact bd_at_lt h2 (by decide)
theorem ok_call_lt {N : sp_N} {O : sp_O} {B : sp_B} {c q : Option Nat} {bar : Bool} (hc : ∀ k, c = some k → k < N 6 0) (hq : ∀ k, q = some k → k < N 1 0) (a b : Nat) (h : ok_call N O B c q bar = some (a, b)) : a < N 6 0 ∧ b < N 1 0 := by
  unfold ok_call at h
  cases c with
  | none => cases h
  | some a9 =>
    cases q with
    | none =>
      dsimp only at h
      split at h <;> cases h
    | some b9 =>
      dsimp only at h
      repeat' split at h
      all_goals first | (cases h; exact ⟨hc _ rfl, hq _ rfl⟩) | cases h
theorem rf_at {ra : Nat → Nat} {ca : Nat → ClassId} {N : sp_N} {O : sp_O} {Z : sp_Z} {B : sp_B} {f : Nat} (h : f ∈ rf_u) : ∃ (x : Nat) (q : Nat × va_E), (rf_W ra ca N O Z B)[x]? = some q ∧ q.1 = ra f := by
  unfold rf_u at h
  simp only [List.mem_cons, List.not_mem_nil, or_false] at h
  rcases h with rfl | rfl | rfl | rfl | rfl | rfl | rfl | rfl | rfl | rfl | rfl | rfl | rfl | rfl | rfl
  · exact ⟨0, _, rfl, rfl⟩
  · exact ⟨1, _, rfl, rfl⟩
  · exact ⟨2, _, rfl, rfl⟩
  · exact ⟨3, _, rfl, rfl⟩
  · exact ⟨4, _, rfl, rfl⟩
  · exact ⟨5, _, rfl, rfl⟩
  · exact ⟨6, _, rfl, rfl⟩
  · exact ⟨7, _, rfl, rfl⟩
  · exact ⟨8, _, rfl, rfl⟩
  · exact ⟨9, _, rfl, rfl⟩
  · exact ⟨10, _, rfl, rfl⟩
  · exact ⟨11, _, rfl, rfl⟩
  · exact ⟨12, _, rfl, rfl⟩
  · exact ⟨13, _, rfl, rfl⟩
  · exact ⟨14, _, rfl, rfl⟩
set_option maxHeartbeats 2000000 in
set_option maxRecDepth 100000 in
theorem lw_c_submit (l : Launch) {p : Program} {e : Env} {s : State} {m : MethodId} {below : List Frame} {meth : Method} {c : Code} {H : Heap} {cells slots b L i a0 m0 : Nat} {ls : Array Slot} {xs : Nat → Int32} {D : va_G} {Q : State → Prop} (hx : p.tables.exec = Jvm.exec) (hb : c.code = code) (hml : c.maxLocals = 4) (hown : s.vm.findClass rn_L = some m.cls) (hts : ∀ w ∈ bg_tbl, w.before #[Value.ref b] s = true) (hX : va_X b L xs s s.heap) (hbl : b < s.heap.size) (hL : L < 2 ^ 31) (hI : lw_I s D H a0 m0) (hS : va_S (fun q => s.heap.size ≤ q) s.heap H []) (hl : lv_has ls 4 [(3, .int (nI i)), (2, .ref m0), (1, .ref a0), (0, .ref b)]) (hi : i + 3 < L) (hf : cells + 1 ≤ 600000 ∧ slots + 11 ≤ 7302250) (kk : ∀ H1, lw_I s D H1 a0 m0 → va_S (fun q => s.heap.size ≤ q) s.heap H1 [] → W p l e room_1 s m #[Value.ref b] below meth c H1 [] (cells + 1) (slots + 11) Q (F0 m 765 ls [])) : W p l e room_1 s m #[Value.ref b] below meth c H [] cells slots Q (F0 m 202 ls []) := by
  obtain ⟨ks, ad, cb, ra, ca, M, X, F, G, N, O, Z, B, rfl, rfl, hKc, hKr, hP, hQ, hJ, hJr, hs1, hs2, hap, hk, hk2, hR, hF⟩ := hI
  have hbA : ¬ s.heap.size ≤ b := by omega
  have h12 := cl_12 hR.1
  have h160 := cl_160 hR.1
  have h3q := cl_3 hR.1
  have hnk : 20 + N 6 0 ∉ ks := fun z => by rcases hk2 _ z with q | q <;> omega
  have hlt : ∀ k, k ∈ ks → ad k < H.size := fun k hk9 => by
    obtain ⟨x, hx9⟩ := List.getElem?_of_mem hk9
    exact (hP x _ (cw_get hx9)).lt
  obtain ⟨ad2, had⟩ : ∃ ad2 : Nat → Nat, ad2 = va_up ad (20 + N 6 0) H.size := ⟨_, rfl⟩
  have hA1 : ∀ k, k ∈ ks → ad2 k = ad k := fun k hk9 => by rw [had]; exact va_up_ne _ _ (fun z => hnk (by rw [← z]; exact hk9))
  have hnew : ad2 (20 + N 6 0) = H.size := by rw [had, va_up_self]
  have hJ2 : cw_J (ks ++ [20 + N 6 0]) ad2 := by rw [had]; exact cw_J_up hJ hnk hlt
  have hJ1 : cw_J ks ad2 := fun x y a9 b9 p1 p2 p3 => hJ x y a9 b9 p1 p2 (by rw [← hA1 a9 (List.mem_of_getElem? p1), ← hA1 b9 (List.mem_of_getElem? p2)]; exact p3)
  have hP : va_P D vw_cl (cw_W ks ad2 cb M X F G) H := by rw [cw_W_cg hA1 hF]; exact hP
  have h00 : ad2 0 = ad 0 := hA1 0 (hk.1 0 (by decide))
  have hrl : ∀ f, f ∈ rf_u → ra f ≠ ad2 (20 + N 6 0) := fun f hf9 z => by
    obtain ⟨x, q, hx1, hx2⟩ := rf_at (N := N) (O := O) (Z := Z) (B := B) (ca := ca) (ra := ra) hf9
    have h9 := (hQ x q hx1).lt
    rw [hx2, z, hnew] at h9
    exact Nat.lt_irrefl _ h9
  have hap2 : ∀ k f, k ∈ ks → f ∈ rf_u → ad2 k ≠ ra f := fun k f h1 h2 => by rw [hA1 k h1]; exact hap k f h1 h2
  have hs12 : ∀ k, k ∈ ks → s.heap.size ≤ ad2 k := fun k h1 => by rw [hA1 k h1]; exact hs1 k h1
  rw [← h00] at hl
  have hgr : ∀ k, bd_gr (xs (i + 3)) = some (some k) → k < 4 := fun k h => bd_gr_lt h
  have hR5 := mt_submit hk hk2 hR (q := bd_at (xs (i + 1)) (N 1 0)) (fun k h => bd_at_lt h (by omega)) (g := bd_gr (xs (i + 3))) hgr (!decide (xs (i + 2) = 0))
  have hU := cl_U_submit (M := M) (X := X) (G := G) hF hk (q := bd_at (xs (i + 1)) (N 1 0)) (fun k h => bd_at_lt h (by omega)) (g := bd_gr (xs (i + 3))) hgr (!decide (xs (i + 2) = 0))
  refine lv_aload_n hx hb dd_L_law_202 rfl (lv_at hl 2 rfl) ?_
  refine lw_ld (k := 1) (A := fun q => s.heap.size ≤ q) hx hb hX hbl hbA hS hl (q0 := 3) (q3 := 0) rfl rfl (by omega) hL (by decide) dd_L_law_203 dd_L_law_204 dd_L_law_205 dd_L_law_206 dd_L_law_207 ?_
  refine lw_ld (k := 2) (A := fun q => s.heap.size ≤ q) hx hb hX hbl hbA hS hl (q0 := 3) (q3 := 0) rfl rfl (by omega) hL (by decide) dd_L_law_208 dd_L_law_209 dd_L_law_210 dd_L_law_211 dd_L_law_212 ?_
  refine lw_bool hx hb dd_L_law_213 dd_L_law_216 dd_L_law_217 dd_L_law_220 ?_
  refine lw_ld (k := 3) (A := fun q => s.heap.size ≤ q) hx hb hX hbl hbA hS hl (q0 := 3) (q3 := 0) rfl rfl (by omega) hL (by decide) dd_L_law_221 dd_L_law_222 dd_L_law_223 dd_L_law_224 dd_L_law_225 ?_
  have hM9 := cc_D_submit l D ks ad2 cb hJ1 M X F G N O B hR.1 hk hR.2.2.2 hJ2 hnk (xs (i + 1)) (!decide (xs (i + 2) = 0)) (xs (i + 3))
  refine lx_n (nk := 20 + N 6 0) (As := [.int (xs (i + 1)), .int (bd_b (!decide (xs (i + 2) = 0))), .int (xs (i + 3))]) (rest := []) (A0 := fun q => s.heap.size ≤ q) ⟨hx, hb, hml, hown, hts⟩ hM9 (bg_cwV 3 hts tw_ml_L_30 tw_im_D_submit tw_se_D_submit tw_in_D tw_co_D_submit rfl rfl th_D_submit ⟨Nat.le_of_ble_eq_true rfl, Nat.le_of_ble_eq_true rfl⟩) hnew.symm hKc hP hQ (lw_ap1 hap2 hJr) (fun q hq => by
    rcases hq with ⟨k9, h9, rfl⟩ | h9
    · exact hs12 k9 h9
    · have := hS.1
      show s.heap.size ≤ q
      omega) hS (hk.1 0 (by decide)) rfl hl.1 rfl (Nat.le_of_ble_eq_true rfl) dd_L_law_226 ⟨show cells + 1 ≤ 600000 by omega, show slots + 11 ≤ 7302250 by omega⟩ (fun H9 locs hP hQ hS9 => ?_)
  refine va_forget (fun q hq => hS9.2.2 q hq) ?_
  have hsn : s.heap.size ≤ ad2 (20 + N 6 0) := by rw [hnew]; exact hS.1
  have hS : va_S (fun q => s.heap.size ≤ q) s.heap H9 [] := ⟨hS9.1, hS9.2.1, fun q hq => (by cases hq)⟩
  have huin : ∀ k, k ∈ (_ : cw_T5).1 → k ∈ ks ∨ k = 20 + N 6 0 := fun k h9 => by
    rcases hU.1 with z | z
    · rw [z] at h9; exact Or.inl h9
    · rw [z] at h9; exact (List.mem_append.mp h9).imp id List.mem_singleton.mp
  have hap9 : ∀ k f, k ∈ (_ : cw_T5).1 → f ∈ rf_u → ad2 k ≠ ra f := fun k f h1 h2 => by
    rcases huin k h1 with z | z
    · exact hap2 k f z h2
    · rw [z]; exact fun q => hrl f h2 q.symm
  refine lv_aload_n hx hb dd_L_law_229 rfl (lv_at hl 1 rfl) ?_
  refine lw_ld (k := 1) (A := fun q => s.heap.size ≤ q) hx hb hX hbl hbA hS hl (q0 := 3) (q3 := 0) rfl rfl (by omega) hL (by decide) dd_L_law_230 dd_L_law_231 dd_L_law_232 dd_L_law_233 dd_L_law_234 ?_
  refine lw_ld (k := 2) (A := fun q => s.heap.size ≤ q) hx hb hX hbl hbA hS hl (q0 := 3) (q3 := 0) rfl rfl (by omega) hL (by decide) dd_L_law_235 dd_L_law_236 dd_L_law_237 dd_L_law_238 dd_L_law_239 ?_
  refine lw_bool hx hb dd_L_law_240 dd_L_law_243 dd_L_law_244 dd_L_law_247 ?_
  refine lw_ld (k := 3) (A := fun q => s.heap.size ≤ q) hx hb hX hbl hbA hS hl (q0 := 3) (q3 := 0) rfl rfl (by omega) hL (by decide) dd_L_law_248 dd_L_law_249 dd_L_law_250 dd_L_law_251 dd_L_law_252 ?_
  refine lx_m (As := [.int (xs (i + 1)), .int (bd_b (!decide (xs (i + 2) = 0))), .int (xs (i + 3))]) (A0 := fun q => s.heap.size ≤ q) ⟨hx, hb, hml, hown, hts⟩ (rc_submit l D ra ca hJr N O Z B hR.2.2.1.1.2.1 (xs (i + 1)) (!decide (xs (i + 2) = 0)) (xs (i + 3))) (bg_cwV 3 hts tw_ml_L_34 tw_im_M_submit tw_se_M_submit tw_in_M tw_co_M_submit rfl rfl th_M_submit ⟨Nat.le_of_ble_eq_true rfl, Nat.le_of_ble_eq_true rfl⟩) hKr hQ hP (lw_ap2 hap9) (fun q hq => by obtain ⟨k9, h9, rfl⟩ := hq; exact hs2 k9 h9) hS rfl hl.1 rfl (Nat.le_of_ble_eq_true rfl) dd_L_law_253 ⟨show cells + 1 ≤ 600000 by omega, show slots + 11 ≤ 7302250 by omega⟩ (fun H locs hQ hP hS => ?_)
  refine va_forget (fun q hq => hS.2.2 q hq) ?_
  have hS : va_S (fun q => s.heap.size ≤ q) s.heap H [] := ⟨hS.1, hS.2.1, fun q hq => (by cases hq)⟩
  refine lv_icmp_eq (tgt := 765) hx hb dd_L_law_256 rfl (fun _ => ?_) (fun h => absurd rfl h)
  exact kk H ⟨_, ad2, cb, ra, ca, _, _, _, _, _, _, _, _, h00, rfl, hKc, hKr, hP, hQ, (by rcases hU.1 with z | z <;> rw [z] <;> assumption), hJr, (fun k h1 => by
    rcases huin k h1 with z | z
    · exact hs12 k z
    · rw [z]; exact hsn), hs2, hap9, hR5.1, hR5.2.1, hR5.2.2, hU.2⟩ hS
set_option maxHeartbeats 2000000 in
set_option maxRecDepth 100000 in
theorem lw_c_after (l : Launch) {p : Program} {e : Env} {s : State} {m : MethodId} {below : List Frame} {meth : Method} {c : Code} {H : Heap} {cells slots b L i a0 m0 : Nat} {ls : Array Slot} {xs : Nat → Int32} {D : va_G} {Q : State → Prop} (hx : p.tables.exec = Jvm.exec) (hb : c.code = code) (hml : c.maxLocals = 4) (hown : s.vm.findClass rn_L = some m.cls) (hts : ∀ w ∈ bg_tbl, w.before #[Value.ref b] s = true) (hX : va_X b L xs s s.heap) (hbl : b < s.heap.size) (hL : L < 2 ^ 31) (hI : lw_I s D H a0 m0) (hS : va_S (fun q => s.heap.size ≤ q) s.heap H []) (hl : lv_has ls 4 [(3, .int (nI i)), (2, .ref m0), (1, .ref a0), (0, .ref b)]) (hi : i + 3 < L) (hf : cells + 1 ≤ 600000 ∧ slots + 11 ≤ 7302250) (kk : ∀ H1, lw_I s D H1 a0 m0 → va_S (fun q => s.heap.size ≤ q) s.heap H1 [] → W p l e room_1 s m #[Value.ref b] below meth c H1 [] (cells + 1) (slots + 11) Q (F0 m 765 ls [])) : W p l e room_1 s m #[Value.ref b] below meth c H [] cells slots Q (F0 m 261 ls []) := by
  obtain ⟨ks, ad, cb, ra, ca, M, X, F, G, N, O, Z, B, rfl, rfl, hKc, hKr, hP, hQ, hJ, hJr, hs1, hs2, hap, hk, hk2, hR, hF⟩ := hI
  have hbA : ¬ s.heap.size ≤ b := by omega
  have h12 := cl_12 hR.1
  have h160 := cl_160 hR.1
  have h3q := cl_3 hR.1
  have hnk : 20 + N 6 0 ∉ ks := fun z => by rcases hk2 _ z with q | q <;> omega
  have hlt : ∀ k, k ∈ ks → ad k < H.size := fun k hk9 => by
    obtain ⟨x, hx9⟩ := List.getElem?_of_mem hk9
    exact (hP x _ (cw_get hx9)).lt
  obtain ⟨ad2, had⟩ : ∃ ad2 : Nat → Nat, ad2 = va_up ad (20 + N 6 0) H.size := ⟨_, rfl⟩
  have hA1 : ∀ k, k ∈ ks → ad2 k = ad k := fun k hk9 => by rw [had]; exact va_up_ne _ _ (fun z => hnk (by rw [← z]; exact hk9))
  have hnew : ad2 (20 + N 6 0) = H.size := by rw [had, va_up_self]
  have hJ2 : cw_J (ks ++ [20 + N 6 0]) ad2 := by rw [had]; exact cw_J_up hJ hnk hlt
  have hJ1 : cw_J ks ad2 := fun x y a9 b9 p1 p2 p3 => hJ x y a9 b9 p1 p2 (by rw [← hA1 a9 (List.mem_of_getElem? p1), ← hA1 b9 (List.mem_of_getElem? p2)]; exact p3)
  have hP : va_P D vw_cl (cw_W ks ad2 cb M X F G) H := by rw [cw_W_cg hA1 hF]; exact hP
  have h00 : ad2 0 = ad 0 := hA1 0 (hk.1 0 (by decide))
  have hrl : ∀ f, f ∈ rf_u → ra f ≠ ad2 (20 + N 6 0) := fun f hf9 z => by
    obtain ⟨x, q, hx1, hx2⟩ := rf_at (N := N) (O := O) (Z := Z) (B := B) (ca := ca) (ra := ra) hf9
    have h9 := (hQ x q hx1).lt
    rw [hx2, z, hnew] at h9
    exact Nat.lt_irrefl _ h9
  have hap2 : ∀ k f, k ∈ ks → f ∈ rf_u → ad2 k ≠ ra f := fun k f h1 h2 => by rw [hA1 k h1]; exact hap k f h1 h2
  have hs12 : ∀ k, k ∈ ks → s.heap.size ≤ ad2 k := fun k h1 => by rw [hA1 k h1]; exact hs1 k h1
  rw [← h00] at hl
  have hR5 := mt_after hk hk2 hR (q := bd_at (xs (i + 1)) (N 1 0)) (fun k h => bd_at_lt h (by omega)) (lw_lg (xs (i + 2)) (xs (i + 3)))
  have hU := cl_U_after (M := M) (X := X) (G := G) hF hk (q := bd_at (xs (i + 1)) (N 1 0)) (fun k h => bd_at_lt h (by omega)) (lw_lg (xs (i + 2)) (xs (i + 3)))
  refine lv_aload_n hx hb dd_L_law_261 rfl (lv_at hl 2 rfl) ?_
  refine lw_ld (k := 1) (A := fun q => s.heap.size ≤ q) hx hb hX hbl hbA hS hl (q0 := 3) (q3 := 0) rfl rfl (by omega) hL (by decide) dd_L_law_262 dd_L_law_263 dd_L_law_264 dd_L_law_265 dd_L_law_266 ?_
  refine lw_ld (k := 2) (A := fun q => s.heap.size ≤ q) hx hb hX hbl hbA hS hl (q0 := 3) (q3 := 0) rfl rfl (by omega) hL (by decide) dd_L_law_267 dd_L_law_268 dd_L_law_269 dd_L_law_270 dd_L_law_271 ?_
  refine lv_i2l hx hb dd_L_law_272 rfl ?_
  refine lv_bipush (v := nI 32) hx hb dd_L_law_273 (by decide) ?_
  refine lv_lshl hx hb dd_L_law_275 rfl ?_
  refine lw_ld (k := 3) (A := fun q => s.heap.size ≤ q) hx hb hX hbl hbA hS hl (q0 := 3) (q3 := 0) rfl rfl (by omega) hL (by decide) dd_L_law_276 dd_L_law_277 dd_L_law_278 dd_L_law_279 dd_L_law_280 ?_
  refine lv_i2l hx hb dd_L_law_281 rfl ?_
  refine lv_ldc2 (v := 4294967295) hx hb hown (hts _ tw_k2_L_35) dd_L_law_282 ?_
  refine lv_land hx hb dd_L_law_285 ?_
  refine lv_lor hx hb dd_L_law_286 ?_
  have hM9 := cc_D_after l D ks ad2 cb hJ1 M X F G N O B hR.1 hk hR.2.2.2 hJ2 hnk (xs (i + 1)) (lw_lg (xs (i + 2)) (xs (i + 3)))
  refine lx_n (nk := 20 + N 6 0) (As := [.int (xs (i + 1)), .long (lw_lg (xs (i + 2)) (xs (i + 3)))]) (rest := []) (A0 := fun q => s.heap.size ≤ q) ⟨hx, hb, hml, hown, hts⟩ hM9 (bg_cwV 2 hts tw_ml_L_37 tw_im_D_after tw_se_D_after tw_in_D tw_co_D_after rfl rfl th_D_after ⟨Nat.le_of_ble_eq_true rfl, Nat.le_of_ble_eq_true rfl⟩) hnew.symm hKc hP hQ (lw_ap1 hap2 hJr) (fun q hq => by
    rcases hq with ⟨k9, h9, rfl⟩ | h9
    · exact hs12 k9 h9
    · have := hS.1
      show s.heap.size ≤ q
      omega) hS (hk.1 0 (by decide)) rfl hl.1 rfl (Nat.le_of_ble_eq_true rfl) dd_L_law_287 ⟨show cells + 1 ≤ 600000 by omega, show slots + 11 ≤ 7302250 by omega⟩ (fun H9 locs hP hQ hS9 => ?_)
  refine va_forget (fun q hq => hS9.2.2 q hq) ?_
  have hsn : s.heap.size ≤ ad2 (20 + N 6 0) := by rw [hnew]; exact hS.1
  have hS : va_S (fun q => s.heap.size ≤ q) s.heap H9 [] := ⟨hS9.1, hS9.2.1, fun q hq => (by cases hq)⟩
  have huin : ∀ k, k ∈ (_ : cw_T5).1 → k ∈ ks ∨ k = 20 + N 6 0 := fun k h9 => by
    rcases hU.1 with z | z
    · rw [z] at h9; exact Or.inl h9
    · rw [z] at h9; exact (List.mem_append.mp h9).imp id List.mem_singleton.mp
  have hap9 : ∀ k f, k ∈ (_ : cw_T5).1 → f ∈ rf_u → ad2 k ≠ ra f := fun k f h1 h2 => by
    rcases huin k h1 with z | z
    · exact hap2 k f z h2
    · rw [z]; exact fun q => hrl f h2 q.symm
  refine lv_aload_n hx hb dd_L_law_290 rfl (lv_at hl 1 rfl) ?_
  refine lw_ld (k := 1) (A := fun q => s.heap.size ≤ q) hx hb hX hbl hbA hS hl (q0 := 3) (q3 := 0) rfl rfl (by omega) hL (by decide) dd_L_law_291 dd_L_law_292 dd_L_law_293 dd_L_law_294 dd_L_law_295 ?_
  refine lw_ld (k := 2) (A := fun q => s.heap.size ≤ q) hx hb hX hbl hbA hS hl (q0 := 3) (q3 := 0) rfl rfl (by omega) hL (by decide) dd_L_law_296 dd_L_law_297 dd_L_law_298 dd_L_law_299 dd_L_law_300 ?_
  refine lv_i2l hx hb dd_L_law_301 rfl ?_
  refine lv_bipush (v := nI 32) hx hb dd_L_law_302 (by decide) ?_
  refine lv_lshl hx hb dd_L_law_304 rfl ?_
  refine lw_ld (k := 3) (A := fun q => s.heap.size ≤ q) hx hb hX hbl hbA hS hl (q0 := 3) (q3 := 0) rfl rfl (by omega) hL (by decide) dd_L_law_305 dd_L_law_306 dd_L_law_307 dd_L_law_308 dd_L_law_309 ?_
  refine lv_i2l hx hb dd_L_law_310 rfl ?_
  refine lv_ldc2 (v := 4294967295) hx hb hown (hts _ tw_k2_L_35) dd_L_law_311 ?_
  refine lv_land hx hb dd_L_law_314 ?_
  refine lv_lor hx hb dd_L_law_315 ?_
  refine lx_m (As := [.int (xs (i + 1)), .long (lw_lg (xs (i + 2)) (xs (i + 3)))]) (A0 := fun q => s.heap.size ≤ q) ⟨hx, hb, hml, hown, hts⟩ (rc_after l D ra ca hJr N O Z B hR.2.2.1.1.2.1 (xs (i + 1)) (lw_lg (xs (i + 2)) (xs (i + 3)))) (bg_cwV 2 hts tw_ml_L_41 tw_im_M_after tw_se_M_after tw_in_M tw_co_M_after rfl rfl th_M_after ⟨Nat.le_of_ble_eq_true rfl, Nat.le_of_ble_eq_true rfl⟩) hKr hQ hP (lw_ap2 hap9) (fun q hq => by obtain ⟨k9, h9, rfl⟩ := hq; exact hs2 k9 h9) hS rfl hl.1 rfl (Nat.le_of_ble_eq_true rfl) dd_L_law_316 ⟨show cells + 1 ≤ 600000 by omega, show slots + 11 ≤ 7302250 by omega⟩ (fun H locs hQ hP hS => ?_)
  refine va_forget (fun q hq => hS.2.2 q hq) ?_
  have hS : va_S (fun q => s.heap.size ≤ q) s.heap H [] := ⟨hS.1, hS.2.1, fun q hq => (by cases hq)⟩
  refine lv_icmp_eq (tgt := 765) hx hb dd_L_law_319 rfl (fun _ => ?_) (fun h => absurd rfl h)
  exact kk H ⟨_, ad2, cb, ra, ca, _, _, _, _, _, _, _, _, h00, rfl, hKc, hKr, hP, hQ, (by rcases hU.1 with z | z <;> rw [z] <;> assumption), hJr, (fun k h1 => by
    rcases huin k h1 with z | z
    · exact hs12 k z
    · rw [z]; exact hsn), hs2, hap9, hR5.1, hR5.2.1, hR5.2.2, hU.2⟩ hS
set_option maxHeartbeats 2000000 in
set_option maxRecDepth 100000 in
theorem lw_c_call (l : Launch) {p : Program} {e : Env} {s : State} {m : MethodId} {below : List Frame} {meth : Method} {c : Code} {H : Heap} {cells slots b L i a0 m0 : Nat} {ls : Array Slot} {xs : Nat → Int32} {D : va_G} {Q : State → Prop} (hx : p.tables.exec = Jvm.exec) (hb : c.code = code) (hml : c.maxLocals = 4) (hown : s.vm.findClass rn_L = some m.cls) (hts : ∀ w ∈ bg_tbl, w.before #[Value.ref b] s = true) (hX : va_X b L xs s s.heap) (hbl : b < s.heap.size) (hL : L < 2 ^ 31) (hI : lw_I s D H a0 m0) (hS : va_S (fun q => s.heap.size ≤ q) s.heap H []) (hl : lv_has ls 4 [(3, .int (nI i)), (2, .ref m0), (1, .ref a0), (0, .ref b)]) (hi : i + 3 < L) (hf : cells + 1 ≤ 600000 ∧ slots + 11 ≤ 7302250) (kk : ∀ H1, lw_I s D H1 a0 m0 → va_S (fun q => s.heap.size ≤ q) s.heap H1 [] → W p l e room_1 s m #[Value.ref b] below meth c H1 [] (cells + 1) (slots + 11) Q (F0 m 765 ls [])) : W p l e room_1 s m #[Value.ref b] below meth c H [] cells slots Q (F0 m 324 ls []) := by
  obtain ⟨ks, ad, cb, ra, ca, M, X, F, G, N, O, Z, B, rfl, rfl, hKc, hKr, hP, hQ, hJ, hJr, hs1, hs2, hap, hk, hk2, hR, hF⟩ := hI
  have hbA : ¬ s.heap.size ≤ b := by omega
  have h12 := cl_12 hR.1
  have h160 := cl_160 hR.1
  have h3q := cl_3 hR.1
  have hnk : 20 + N 6 0 ∉ ks := fun z => by rcases hk2 _ z with q | q <;> omega
  have hlt : ∀ k, k ∈ ks → ad k < H.size := fun k hk9 => by
    obtain ⟨x, hx9⟩ := List.getElem?_of_mem hk9
    exact (hP x _ (cw_get hx9)).lt
  obtain ⟨ad2, had⟩ : ∃ ad2 : Nat → Nat, ad2 = va_up ad (20 + N 6 0) H.size := ⟨_, rfl⟩
  have hA1 : ∀ k, k ∈ ks → ad2 k = ad k := fun k hk9 => by rw [had]; exact va_up_ne _ _ (fun z => hnk (by rw [← z]; exact hk9))
  have hnew : ad2 (20 + N 6 0) = H.size := by rw [had, va_up_self]
  have hJ2 : cw_J (ks ++ [20 + N 6 0]) ad2 := by rw [had]; exact cw_J_up hJ hnk hlt
  have hJ1 : cw_J ks ad2 := fun x y a9 b9 p1 p2 p3 => hJ x y a9 b9 p1 p2 (by rw [← hA1 a9 (List.mem_of_getElem? p1), ← hA1 b9 (List.mem_of_getElem? p2)]; exact p3)
  have hP : va_P D vw_cl (cw_W ks ad2 cb M X F G) H := by rw [cw_W_cg hA1 hF]; exact hP
  have h00 : ad2 0 = ad 0 := hA1 0 (hk.1 0 (by decide))
  have hrl : ∀ f, f ∈ rf_u → ra f ≠ ad2 (20 + N 6 0) := fun f hf9 z => by
    obtain ⟨x, q, hx1, hx2⟩ := rf_at (N := N) (O := O) (Z := Z) (B := B) (ca := ca) (ra := ra) hf9
    have h9 := (hQ x q hx1).lt
    rw [hx2, z, hnew] at h9
    exact Nat.lt_irrefl _ h9
  have hap2 : ∀ k f, k ∈ ks → f ∈ rf_u → ad2 k ≠ ra f := fun k f h1 h2 => by rw [hA1 k h1]; exact hap k f h1 h2
  have hs12 : ∀ k, k ∈ ks → s.heap.size ≤ ad2 k := fun k h1 => by rw [hA1 k h1]; exact hs1 k h1
  rw [← h00] at hl
  have hoc := ok_call_lt (N := N) (O := O) (B := B) (bar := !decide (xs (i + 3) = 0)) (c := bd_at (xs (i + 1)) (N 6 0)) (q := bd_at (xs (i + 2)) (N 1 0)) (fun k h => bd_at_lt h (by omega)) (fun k h => bd_at_lt h (by omega))
  obtain ⟨hck, hcm⟩ := mt_ck hR (c := bd_at (xs (i + 1)) (N 6 0)) (q := bd_at (xs (i + 2)) (N 1 0)) (fun k h => bd_at_lt h (by omega)) (!decide (xs (i + 3) = 0))
  have hR5 := mt_call hk hk2 hR (c := bd_at (xs (i + 1)) (N 6 0)) (q := bd_at (xs (i + 2)) (N 1 0)) (fun k h => bd_at_lt h (by omega)) (fun k h => bd_at_lt h (by omega)) (!decide (xs (i + 3) = 0))
  have hU := cl_U_call (M := M) (X := X) (G := G) hF hk (o := ok_call N O B (bd_at (xs (i + 1)) (N 6 0)) (bd_at (xs (i + 2)) (N 1 0)) (!decide (xs (i + 3) = 0))) hoc (!decide (xs (i + 3) = 0))
  refine lv_aload_n hx hb dd_L_law_324 rfl (lv_at hl 2 rfl) ?_
  refine lw_ld (k := 1) (A := fun q => s.heap.size ≤ q) hx hb hX hbl hbA hS hl (q0 := 3) (q3 := 0) rfl rfl (by omega) hL (by decide) dd_L_law_325 dd_L_law_326 dd_L_law_327 dd_L_law_328 dd_L_law_329 ?_
  refine lw_ld (k := 2) (A := fun q => s.heap.size ≤ q) hx hb hX hbl hbA hS hl (q0 := 3) (q3 := 0) rfl rfl (by omega) hL (by decide) dd_L_law_330 dd_L_law_331 dd_L_law_332 dd_L_law_333 dd_L_law_334 ?_
  refine lw_ld (k := 3) (A := fun q => s.heap.size ≤ q) hx hb hX hbl hbA hS hl (q0 := 3) (q3 := 0) rfl rfl (by omega) hL (by decide) dd_L_law_335 dd_L_law_336 dd_L_law_337 dd_L_law_338 dd_L_law_339 ?_
  refine lw_bool hx hb dd_L_law_340 dd_L_law_343 dd_L_law_344 dd_L_law_347 ?_
  have hM9 := cc_D_call l D ks ad2 cb hJ1 M X F G N O B hR.1 hk hR.2.2.2 hJ2 hnk (xs (i + 1)) (xs (i + 2)) (!decide (xs (i + 3) = 0))
  rw [hck, hcm] at hM9
  refine lx_n (nk := 20 + N 6 0) (As := [.int (xs (i + 1)), .int (xs (i + 2)), .int (bd_b (!decide (xs (i + 3) = 0)))]) (rest := []) (A0 := fun q => s.heap.size ≤ q) ⟨hx, hb, hml, hown, hts⟩ hM9 (bg_cwV 3 hts tw_ml_L_42 tw_im_D_call tw_se_D_call tw_in_D tw_co_D_call rfl rfl th_D_call ⟨Nat.le_of_ble_eq_true rfl, Nat.le_of_ble_eq_true rfl⟩) hnew.symm hKc hP hQ (lw_ap1 hap2 hJr) (fun q hq => by
    rcases hq with ⟨k9, h9, rfl⟩ | h9
    · exact hs12 k9 h9
    · have := hS.1
      show s.heap.size ≤ q
      omega) hS (hk.1 0 (by decide)) rfl hl.1 rfl (Nat.le_of_ble_eq_true rfl) dd_L_law_348 ⟨show cells + 1 ≤ 600000 by omega, show slots + 11 ≤ 7302250 by omega⟩ (fun H9 locs hP hQ hS9 => ?_)
  refine va_forget (fun q hq => hS9.2.2 q hq) ?_
  have hsn : s.heap.size ≤ ad2 (20 + N 6 0) := by rw [hnew]; exact hS.1
  have hS : va_S (fun q => s.heap.size ≤ q) s.heap H9 [] := ⟨hS9.1, hS9.2.1, fun q hq => (by cases hq)⟩
  have huin : ∀ k, k ∈ (_ : cw_T5).1 → k ∈ ks ∨ k = 20 + N 6 0 := fun k h9 => by
    rcases hU.1 with z | z
    · rw [z] at h9; exact Or.inl h9
    · rw [z] at h9; exact (List.mem_append.mp h9).imp id List.mem_singleton.mp
  have hap9 : ∀ k f, k ∈ (_ : cw_T5).1 → f ∈ rf_u → ad2 k ≠ ra f := fun k f h1 h2 => by
    rcases huin k h1 with z | z
    · exact hap2 k f z h2
    · rw [z]; exact fun q => hrl f h2 q.symm
  refine lv_aload_n hx hb dd_L_law_351 rfl (lv_at hl 1 rfl) ?_
  refine lw_ld (k := 1) (A := fun q => s.heap.size ≤ q) hx hb hX hbl hbA hS hl (q0 := 3) (q3 := 0) rfl rfl (by omega) hL (by decide) dd_L_law_352 dd_L_law_353 dd_L_law_354 dd_L_law_355 dd_L_law_356 ?_
  refine lw_ld (k := 2) (A := fun q => s.heap.size ≤ q) hx hb hX hbl hbA hS hl (q0 := 3) (q3 := 0) rfl rfl (by omega) hL (by decide) dd_L_law_357 dd_L_law_358 dd_L_law_359 dd_L_law_360 dd_L_law_361 ?_
  refine lw_ld (k := 3) (A := fun q => s.heap.size ≤ q) hx hb hX hbl hbA hS hl (q0 := 3) (q3 := 0) rfl rfl (by omega) hL (by decide) dd_L_law_362 dd_L_law_363 dd_L_law_364 dd_L_law_365 dd_L_law_366 ?_
  refine lw_bool hx hb dd_L_law_367 dd_L_law_370 dd_L_law_371 dd_L_law_374 ?_
  refine lx_m (As := [.int (xs (i + 1)), .int (xs (i + 2)), .int (bd_b (!decide (xs (i + 3) = 0)))]) (A0 := fun q => s.heap.size ≤ q) ⟨hx, hb, hml, hown, hts⟩ (rc_call l D ra ca hJr N O Z B hR.2.2.1.1.2.1 h3q (xs (i + 1)) (xs (i + 2)) (!decide (xs (i + 3) = 0))) (bg_cwV 3 hts tw_ml_L_46 tw_im_M_call tw_se_M_call tw_in_M tw_co_M_call rfl rfl th_M_call ⟨Nat.le_of_ble_eq_true rfl, Nat.le_of_ble_eq_true rfl⟩) hKr hQ hP (lw_ap2 hap9) (fun q hq => by obtain ⟨k9, h9, rfl⟩ := hq; exact hs2 k9 h9) hS rfl hl.1 rfl (Nat.le_of_ble_eq_true rfl) dd_L_law_375 ⟨show cells + 1 ≤ 600000 by omega, show slots + 11 ≤ 7302250 by omega⟩ (fun H locs hQ hP hS => ?_)
  refine va_forget (fun q hq => hS.2.2 q hq) ?_
  have hS : va_S (fun q => s.heap.size ≤ q) s.heap H [] := ⟨hS.1, hS.2.1, fun q hq => (by cases hq)⟩
  refine lv_icmp_eq (tgt := 765) hx hb dd_L_law_378 rfl (fun _ => ?_) (fun h => absurd rfl h)
  exact kk H ⟨_, ad2, cb, ra, ca, _, _, _, _, _, _, _, _, h00, rfl, hKc, hKr, hP, hQ, (by rcases hU.1 with z | z <;> rw [z] <;> assumption), hJr, (fun k h1 => by
    rcases huin k h1 with z | z
    · exact hs12 k z
    · rw [z]; exact hsn), hs2, hap9, hR5.1, hR5.2.1, hR5.2.2, hU.2⟩ hS
set_option maxHeartbeats 2000000 in
set_option maxRecDepth 100000 in
theorem lw_c_whenDone (l : Launch) {p : Program} {e : Env} {s : State} {m : MethodId} {below : List Frame} {meth : Method} {c : Code} {H : Heap} {cells slots b L i a0 m0 : Nat} {ls : Array Slot} {xs : Nat → Int32} {D : va_G} {Q : State → Prop} (hx : p.tables.exec = Jvm.exec) (hb : c.code = code) (hml : c.maxLocals = 4) (hown : s.vm.findClass rn_L = some m.cls) (hts : ∀ w ∈ bg_tbl, w.before #[Value.ref b] s = true) (hX : va_X b L xs s s.heap) (hbl : b < s.heap.size) (hL : L < 2 ^ 31) (hI : lw_I s D H a0 m0) (hS : va_S (fun q => s.heap.size ≤ q) s.heap H []) (hl : lv_has ls 4 [(3, .int (nI i)), (2, .ref m0), (1, .ref a0), (0, .ref b)]) (hi : i + 3 < L) (hf : cells + 1 ≤ 600000 ∧ slots + 11 ≤ 7302250) (kk : ∀ H1, lw_I s D H1 a0 m0 → va_S (fun q => s.heap.size ≤ q) s.heap H1 [] → W p l e room_1 s m #[Value.ref b] below meth c H1 [] (cells + 1) (slots + 11) Q (F0 m 765 ls [])) : W p l e room_1 s m #[Value.ref b] below meth c H [] cells slots Q (F0 m 383 ls []) := by
  obtain ⟨ks, ad, cb, ra, ca, M, X, F, G, N, O, Z, B, rfl, rfl, hKc, hKr, hP, hQ, hJ, hJr, hs1, hs2, hap, hk, hk2, hR, hF⟩ := hI
  have hbA : ¬ s.heap.size ≤ b := by omega
  have h12 := cl_12 hR.1
  have h160 := cl_160 hR.1
  have h3q := cl_3 hR.1
  have hnk : 20 + N 6 0 ∉ ks := fun z => by rcases hk2 _ z with q | q <;> omega
  have hlt : ∀ k, k ∈ ks → ad k < H.size := fun k hk9 => by
    obtain ⟨x, hx9⟩ := List.getElem?_of_mem hk9
    exact (hP x _ (cw_get hx9)).lt
  obtain ⟨ad2, had⟩ : ∃ ad2 : Nat → Nat, ad2 = va_up ad (20 + N 6 0) H.size := ⟨_, rfl⟩
  have hA1 : ∀ k, k ∈ ks → ad2 k = ad k := fun k hk9 => by rw [had]; exact va_up_ne _ _ (fun z => hnk (by rw [← z]; exact hk9))
  have hnew : ad2 (20 + N 6 0) = H.size := by rw [had, va_up_self]
  have hJ2 : cw_J (ks ++ [20 + N 6 0]) ad2 := by rw [had]; exact cw_J_up hJ hnk hlt
  have hJ1 : cw_J ks ad2 := fun x y a9 b9 p1 p2 p3 => hJ x y a9 b9 p1 p2 (by rw [← hA1 a9 (List.mem_of_getElem? p1), ← hA1 b9 (List.mem_of_getElem? p2)]; exact p3)
  have hP : va_P D vw_cl (cw_W ks ad2 cb M X F G) H := by rw [cw_W_cg hA1 hF]; exact hP
  have h00 : ad2 0 = ad 0 := hA1 0 (hk.1 0 (by decide))
  have hrl : ∀ f, f ∈ rf_u → ra f ≠ ad2 (20 + N 6 0) := fun f hf9 z => by
    obtain ⟨x, q, hx1, hx2⟩ := rf_at (N := N) (O := O) (Z := Z) (B := B) (ca := ca) (ra := ra) hf9
    have h9 := (hQ x q hx1).lt
    rw [hx2, z, hnew] at h9
    exact Nat.lt_irrefl _ h9
  have hap2 : ∀ k f, k ∈ ks → f ∈ rf_u → ad2 k ≠ ra f := fun k f h1 h2 => by rw [hA1 k h1]; exact hap k f h1 h2
  have hs12 : ∀ k, k ∈ ks → s.heap.size ≤ ad2 k := fun k h1 => by rw [hA1 k h1]; exact hs1 k h1
  rw [← h00] at hl
  have hR5 := mt_when hk hk2 hR (g := bd_at (xs (i + 1)) 4) (q := bd_at (xs (i + 2)) (N 1 0)) (fun k h => bd_at_lt h (by decide)) (fun k h => bd_at_lt h (by omega))
  have hU := cl_U_when (M := M) (X := X) (G := G) hF hk (g := bd_at (xs (i + 1)) 4) (q := bd_at (xs (i + 2)) (N 1 0)) (fun k h => bd_at_lt h (by decide)) (fun k h => bd_at_lt h (by omega))
  refine lv_aload_n hx hb dd_L_law_383 rfl (lv_at hl 2 rfl) ?_
  refine lw_ld (k := 1) (A := fun q => s.heap.size ≤ q) hx hb hX hbl hbA hS hl (q0 := 3) (q3 := 0) rfl rfl (by omega) hL (by decide) dd_L_law_384 dd_L_law_385 dd_L_law_386 dd_L_law_387 dd_L_law_388 ?_
  refine lw_ld (k := 2) (A := fun q => s.heap.size ≤ q) hx hb hX hbl hbA hS hl (q0 := 3) (q3 := 0) rfl rfl (by omega) hL (by decide) dd_L_law_389 dd_L_law_390 dd_L_law_391 dd_L_law_392 dd_L_law_393 ?_
  have hM9 := cc_D_whenDone l D ks ad2 cb hJ1 M X F G N O B hR.1 hk hR.2.2.2 hJ2 hnk (xs (i + 1)) (xs (i + 2))
  refine lx_n (nk := 20 + N 6 0) (As := [.int (xs (i + 1)), .int (xs (i + 2))]) (rest := []) (A0 := fun q => s.heap.size ≤ q) ⟨hx, hb, hml, hown, hts⟩ hM9 (bg_cwV 2 hts tw_ml_L_47 tw_im_D_whenDone tw_se_D_whenDone tw_in_D tw_co_D_whenDone rfl rfl th_D_whenDone ⟨Nat.le_of_ble_eq_true rfl, Nat.le_of_ble_eq_true rfl⟩) hnew.symm hKc hP hQ (lw_ap1 hap2 hJr) (fun q hq => by
    rcases hq with ⟨k9, h9, rfl⟩ | h9
    · exact hs12 k9 h9
    · have := hS.1
      show s.heap.size ≤ q
      omega) hS (hk.1 0 (by decide)) rfl hl.1 rfl (Nat.le_of_ble_eq_true rfl) dd_L_law_394 ⟨show cells + 1 ≤ 600000 by omega, show slots + 11 ≤ 7302250 by omega⟩ (fun H9 locs hP hQ hS9 => ?_)
  refine va_forget (fun q hq => hS9.2.2 q hq) ?_
  have hsn : s.heap.size ≤ ad2 (20 + N 6 0) := by rw [hnew]; exact hS.1
  have hS : va_S (fun q => s.heap.size ≤ q) s.heap H9 [] := ⟨hS9.1, hS9.2.1, fun q hq => (by cases hq)⟩
  have huin : ∀ k, k ∈ (_ : cw_T5).1 → k ∈ ks ∨ k = 20 + N 6 0 := fun k h9 => by
    rcases hU.1 with z | z
    · rw [z] at h9; exact Or.inl h9
    · rw [z] at h9; exact (List.mem_append.mp h9).imp id List.mem_singleton.mp
  have hap9 : ∀ k f, k ∈ (_ : cw_T5).1 → f ∈ rf_u → ad2 k ≠ ra f := fun k f h1 h2 => by
    rcases huin k h1 with z | z
    · exact hap2 k f z h2
    · rw [z]; exact fun q => hrl f h2 q.symm
  refine lv_aload_n hx hb dd_L_law_397 rfl (lv_at hl 1 rfl) ?_
  refine lw_ld (k := 1) (A := fun q => s.heap.size ≤ q) hx hb hX hbl hbA hS hl (q0 := 3) (q3 := 0) rfl rfl (by omega) hL (by decide) dd_L_law_398 dd_L_law_399 dd_L_law_400 dd_L_law_401 dd_L_law_402 ?_
  refine lw_ld (k := 2) (A := fun q => s.heap.size ≤ q) hx hb hX hbl hbA hS hl (q0 := 3) (q3 := 0) rfl rfl (by omega) hL (by decide) dd_L_law_403 dd_L_law_404 dd_L_law_405 dd_L_law_406 dd_L_law_407 ?_
  refine lx_m (As := [.int (xs (i + 1)), .int (xs (i + 2))]) (A0 := fun q => s.heap.size ≤ q) ⟨hx, hb, hml, hown, hts⟩ (rc_whenDone l D ra ca hJr N O Z B hR.2.2.1.1.2.1 (xs (i + 1)) (xs (i + 2))) (bg_cwV 2 hts tw_ml_L_50 tw_im_M_whenDone tw_se_M_whenDone tw_in_M tw_co_M_whenDone rfl rfl th_M_whenDone ⟨Nat.le_of_ble_eq_true rfl, Nat.le_of_ble_eq_true rfl⟩) hKr hQ hP (lw_ap2 hap9) (fun q hq => by obtain ⟨k9, h9, rfl⟩ := hq; exact hs2 k9 h9) hS rfl hl.1 rfl (Nat.le_of_ble_eq_true rfl) dd_L_law_408 ⟨show cells + 1 ≤ 600000 by omega, show slots + 11 ≤ 7302250 by omega⟩ (fun H locs hQ hP hS => ?_)
  refine va_forget (fun q hq => hS.2.2 q hq) ?_
  have hS : va_S (fun q => s.heap.size ≤ q) s.heap H [] := ⟨hS.1, hS.2.1, fun q hq => (by cases hq)⟩
  refine lv_icmp_eq (tgt := 765) hx hb dd_L_law_411 rfl (fun _ => ?_) (fun h => absurd rfl h)
  exact kk H ⟨_, ad2, cb, ra, ca, _, _, _, _, _, _, _, _, h00, rfl, hKc, hKr, hP, hQ, (by rcases hU.1 with z | z <;> rw [z] <;> assumption), hJr, (fun k h1 => by
    rcases huin k h1 with z | z
    · exact hs12 k z
    · rw [z]; exact hsn), hs2, hap9, hR5.1, hR5.2.1, hR5.2.2, hU.2⟩ hS
