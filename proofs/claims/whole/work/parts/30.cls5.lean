/-! Part 30: the class: accept. By wip/gen/gen_cls5.py. -/
theorem cw_rup (ad : Nat → Nat) (g : Nat → Option Nat) (j v : Nat) : (fun i => (va_up g j (some v) i).map ad) = va_up (fun i => (g i).map ad) j (some (ad v)) := by
  funext i
  by_cases h : i = j
  · subst h; simp [va_up]
  · simp [va_up, h]
section CAA
variable {p : Program} {l : Launch} {e : Env} {R : Room} {s : State} {m : MethodId} {args : Array Value} {below : List Frame} {meth : Method} {c : Code} {H H0 : Heap} {locs : List Loc} {cells slots : Nat} {Q : State → Prop}
variable {cc : ByteArray} {pc : Nat} {ls : Array Slot} {rest : List Value} {D : va_G} {ks : List Nat} {ad : Nat → Nat} {ca : Nat → ClassId} {M : sp_N} {X : sp_B} {F : sp_O} {G : sp_Z} {A : Nat → Prop} {ci k v : Nat} {fs : List Value}
theorem cw_aast {t0 : Nat} {r : vw_C} (hx : p.tables.exec = Jvm.exec) (hb : c.code = cc) (hK : va_K D vw_cl (cw_T ca) s) (hP : va_P D vw_cl (cw_W ks ad ca M X F G) H) (hD : va_D A (cw_W ks ad ca M X F G)) (hS : va_S A H0 H locs) (hk : k ∈ ks) (h0 : 0 < k) (h4 : k < 4) (ht : (cw_T ca)[t0]? = some (ca k, .object r.1)) {j : Nat} (hj : j < cw_n k) (hv : v ∈ ks) (hE : cw_C ad ca v (M v) (X v) (F v) (G v) = .inr (ci, fs)) (hc : vw_cl[ci]? = some r) (hdg : decode cc pc = .ok (.aastore, 1))
    (kk : ∀ (H1 : Heap) (locs1 : List Loc), va_P D vw_cl (cw_W ks ad ca M X (sp_u F k j (some v)) G) H1 → va_S A H0 H1 locs1 → W p l e R s m args below meth c H1 locs1 cells slots Q (F0 m (pc + 1) ls rest)) : W p l e R s m args below meth c H locs cells slots Q (F0 m pc ls (.ref (ad v) :: .int (nI j) :: .ref (ad k) :: rest)) := by
  obtain ⟨i, hi⟩ := List.getElem?_of_mem hk
  obtain ⟨i2, hi2⟩ := List.getElem?_of_mem hv
  have hn : cw_n k < 2 ^ 31 := cw_n_lt k
  refine va_astq hx hb hK hP hD hS i t0 i2 ci ((cw_get hi).trans (by rw [cw_CA h0 h4])) ht ((cw_get hi2).trans (by rw [hE])) hc (vp_in_nI hj hn) hdg (fun H1 locs1 h1 _ h3 => ?_)
  rw [nI_clamp (by omega), ← cw_rup, ← cw_CA h0 h4 ad ca (M k) (X k) (va_up (F k) j (some v)) (G k), ← sp_u_k F k j (some v), cw_set hD hi (fun _ _ => rfl) (fun _ _ => rfl) (fun _ hq => sp_u_f _ _ _ hq) (fun _ _ => rfl)] at h1
  exact kk H1 locs1 h1 h3
end CAA
/-- the cells that a method may write that makes cells from sz on -/
def cw_A2 (ks : List Nat) (ad : Nat → Nat) (sz : Nat) : Nat → Prop := fun q => (∃ k, k ∈ ks ∧ q = ad k) ∨ sz ≤ q
set_option maxHeartbeats 1000000 in
set_option maxRecDepth 100000 in
theorem cc_D_accept (l : Launch) (D : va_G) (ks : List Nat) (ad : Nat → Nat) (ca : Nat → ClassId) (hJ : cw_J ks ad) (M : sp_N) (X : sp_B) (F : sp_O) (G : sp_Z) (N : sp_N) (O : sp_O) (B : sp_B) (hC : cl_S M X F N O B) (hks : cl_k ks N) (hMB : cl_B M) (hJ2 : cw_J (ks ++ [20 + N 6 0]) ad) (hnk : 20 + N 6 0 ∉ ks) (h6 : N 6 0 < 160) (j : Nat) (bar : Bool) (hj : j < N 1 0) : Met l my_D_accept (Cond.code my_D_accept cd_D_accept 4 (some (.object "BarrierDispatch$Block")) :: bg_tbl) ({ frames := 2, cells := 1, slots := 11, locals := 35 }) (va_Pc [.ref (ad 0), .ref (ad (8 + j)), .int (bd_b bar)] (fun U => U.heap.size = ad (20 + N 6 0) ∧ cw_U D ks ad ca M X F G U)) (va_Qr (fun (_ : Unit) => True) (fun _ aa uu => aa = ad (20 + N 6 0) ∧ cw_U D (ks ++ [20 + N 6 0]) ad ca (cs_AM M (N 6 0)) (cs_nX X (N 6 0) (bar && decide (3 ≤ j))) (cs_AF F (N 6 0) j) (cs_nG G (N 6 0)) uu) (cw_A2 ks ad (ad (20 + N 6 0)))) 1 11 (cw_A2 ks ad (ad (20 + N 6 0))) := by
  refine Met.ofW (cc := cd_D_accept) (maxL := 4) (ret := (some (.object "BarrierDispatch$Block"))) (by decide) rfl ?_
  intro p e s m args below meth c s₁ BB hml hv
  obtain ⟨rfl, hsz, hP, hK⟩ := hv
  have hx := BB.exec
  have hb := BB.bytes
  have hr := BB.returns
  have hts : ∀ w ∈ bg_tbl, w.before ([.ref (ad 0), .ref (ad (8 + j)), .int (bd_b bar)] : List Value).toArray s = true := fun w h => atoms_spec (ws := (Cond.code my_D_accept cd_D_accept 4 (some (.object "BarrierDispatch$Block")) :: bg_tbl)) BB.pre w (List.mem_cons_of_mem _ h)
  have hown : s.vm.findClass rn_D = some m.cls := findClass_of_methodNamed BB.named
  have hlocks := BB.notSynchronized
  have h12 := cl_12 hC
  have h160 := cl_160 hC
  have h3q := cl_3 hC
  have hM4 := cl_M4 hC
  have hM5 := cl_M5 hC
  have hS : va_S (cw_A2 ks ad (ad (20 + N 6 0))) s.heap s.heap [] := va_S.rf
  have hA2 : ∀ k, k ∈ (ks ++ [20 + N 6 0]) → (cw_A2 ks ad (ad (20 + N 6 0))) (ad k) := fun k hk => by
    rcases List.mem_append.mp hk with h | h
    · exact Or.inl ⟨k, h, rfl⟩
    · rw [List.mem_singleton.mp h]; exact Or.inr (Nat.le_refl _)
  have hl := lv_entry ([.ref (ad 0), .ref (ad (8 + j)), .int (bd_b bar)]) (n := 4) (Nat.le_of_ble_eq_true rfl)
  rw [lg_entry_eq]
  generalize (lg_sl ([.ref (ad 0), .ref (ad (8 + j)), .int (bd_b bar)]) ++ List.replicate (4 - (lg_sl ([.ref (ad 0), .ref (ad (8 + j)), .int (bd_b bar)])).length) Slot.unset).toArray = ls at hl ⊢
  have hl : lv_has ls 4 [(0, .ref (ad 0)), (1, .ref (ad (8 + j))), (2, .int (bd_b bar))] := hl
  refine cw_new (ci := 0) (fs := [.int (nI 0), .null, .int (bd_b false), .int (nI 0), .int (bd_b false), .null, .null, .null, .long 0, .int (nI 0), .null]) hx hb hts tw_fs_B fy_B fo_B hown (hts _ tw_cl_D_28) (hts _ tw_is_B) (hts _ tw_in_B) hK rfl (fun j hj => by rcases (show j = 0 ∨ j = 1 ∨ j = 2 ∨ j = 3 ∨ j = 4 ∨ j = 5 ∨ j = 6 ∨ j = 7 ∨ j = 8 ∨ j = 9 ∨ j = 10 by omega) with rfl | rfl | rfl | rfl | rfl | rfl | rfl | rfl | rfl | rfl | rfl <;> rfl) hS (Nat.le_of_ble_eq_true rfl) (Nat.le_of_ble_eq_true rfl) dd_D_accept_0 (fun H hN ho hz hS => ?_)
  have hP : va_P D vw_cl (cw_W ks ad ca M X F G) H := hP.kept (fun k q hk => ho q.1 (hP k q hk).lt)
  rw [hsz] at hN ho hz
  rw [hsz]
  refine W.widen (k := 1) (n := 11) (Nat.le_refl _) (Nat.le_refl _) ?_
  refine lv_dup hx hb dd_D_accept_3 rfl ?_
  refine lv_aload_n hx hb dd_D_accept_4 rfl (lv_at hl 0 rfl) ?_
  refine cw_get1 (k := 0) (C := rn_D) (T := ft_D) (NF := 9) (v := .int (nI (M 0 5))) hx hb hts tw_fs_D hown hK hP (hks.1 0 (by decide)) (cw_C0 ad ca _ _ _ _) rfl 5 (by decide) (hts _ tw_fl_D_181) rfl rfl dd_D_accept_5 ?_
  rw [hM5]
  refine lv_aload_n hx hb dd_D_accept_8 rfl (lv_at hl 1 rfl) ?_
  refine lv_iload_n hx hb dd_D_accept_9 rfl (lv_at hl 2 rfl) ?_
  refine bq_zeq (tgt := 24) hx hb dd_D_accept_10 rfl (fun h10 => ?_) (fun h10 => ?_)
  · refine lv_iconst (v := bd_b false) hx hb dd_D_accept_24 (by decide) ?_
    refine cw_callI (As := [.int (nI (N 6 0)), .ref (ad (8 + j)), .int (bd_b false)]) (rest := [.ref (ad (20 + N 6 0))]) ⟨hx, hb, hml, hown, hts⟩ (ci_B_init l D (ad (20 + N 6 0)) (N 6 0) (ad (8 + j)) false) ⟨callB_of 3 hts (bg_G tw_co_B_init) rfl rfl rfl (hts _ tw_in_B) (hts _ tw_ml_D_184) th_B_init.2 ⟨Nat.le_of_ble_eq_true rfl, Nat.le_of_ble_eq_true rfl⟩, rfl, hts _ tw_im_B_init⟩ hK hN hS (Or.inr (Nat.le_refl _)) rfl hl.1 rfl (Nat.le_of_ble_eq_true rfl) dd_D_accept_25 ⟨Nat.le_of_ble_eq_true rfl, Nat.le_of_ble_eq_true rfl⟩ (fun H1 locs hN hk9 hS => ?_)
    have hP : va_P D vw_cl (cw_W ks ad ca M X F G) H1 := hP.kept (fun k q hq => hk9 q.1 (hP k q hq).lt (fun e9 => by
      obtain ⟨a, a1, rfl⟩ := cw_key hq
      have hak := List.mem_of_getElem? a1
      have h9 := cw_inj hJ2 (List.mem_append_left _ hak) (List.mem_append_right _ (List.mem_singleton.mpr rfl)) e9
      exact hnk (h9 ▸ hak)))
    have hP : va_P D vw_cl (cw_W (ks ++ [20 + N 6 0]) ad ca (cs_nM M (N 6 0)) (cs_nX X (N 6 0) false) (cs_nF F (N 6 0) j) (cs_nG G (N 6 0))) H1 := cw_join hnk hP (by rw [cs_n_cell]; exact hN)
    refine lv_astore_n hx hb dd_D_accept_28 rfl hl (by decide) rfl (fun ls hl => ?_)
    have hl : lv_has ls 4 [(3, .ref (ad (20 + N 6 0))), (0, .ref (ad 0)), (1, .ref (ad (8 + j))), (2, .int (bd_b bar))] := hl
    refine lv_aload_n hx hb dd_D_accept_29 rfl (lv_at hl 1 rfl) ?_
    refine cw_getk (k := 0) (C := rn_D) (T := ft_D) (NF := 9) hx hb hts tw_fs_D hown hK hP (List.mem_append_left _ (hks.1 0 (by decide))) (cw_C0 ad ca _ _ _ _) rfl 2 (by decide) (hts _ tw_fl_D_30) rfl rfl (by rw [cs_nF_ne _ _ _ (by omega)]; exact cl_F2 hC) dd_D_accept_30 ?_
    refine lv_aload_n hx hb dd_D_accept_33 rfl (lv_at hl 1 rfl) ?_
    refine cw_get1 (k := 0) (C := rn_D) (T := ft_D) (NF := 9) (v := .int (nI ((cs_nM M (N 6 0)) 0 5))) hx hb hts tw_fs_D hown hK hP (List.mem_append_left _ (hks.1 0 (by decide))) (cw_C0 ad ca _ _ _ _) rfl 5 (by decide) (hts _ tw_fl_D_181) rfl rfl dd_D_accept_34 ?_
    rw [cs_nM_ne M _ (show (0 : Nat) ≠ 20 + N 6 0 by omega), hM5]
    refine lv_aload_n hx hb dd_D_accept_37 rfl (lv_at hl 0 rfl) ?_
    refine cw_aast (k := 2) (t0 := 1) (v := 20 + N 6 0) hx hb hK hP (cw_DA hJ2 hA2 ca (cs_nM M (N 6 0)) (cs_nX X (N 6 0) false) (cs_nF F (N 6 0) j) (cs_nG G (N 6 0))) hS (List.mem_append_left _ (hks.1 2 (by decide))) (by decide) (by decide) rfl (j := N 6 0) (show N 6 0 < cw_n 2 from h6) (List.mem_append_right _ (List.mem_singleton.mpr rfl)) (cw_CB _ ad ca _ _ _ _) rfl dd_D_accept_38 (fun H1 locs hP hS => ?_)
    have hP : va_P D vw_cl (cw_W (ks ++ [20 + N 6 0]) ad ca (cs_nM M (N 6 0)) (cs_nX X (N 6 0) false) (cs_AF F (N 6 0) j) (cs_nG G (N 6 0))) H1 := hP
    refine lv_aload_n hx hb dd_D_accept_39 rfl (lv_at hl 1 rfl) ?_
    refine lv_dup hx hb dd_D_accept_40 rfl ?_
    refine cw_get1 (k := 0) (C := rn_D) (T := ft_D) (NF := 9) (v := .int (nI ((cs_nM M (N 6 0)) 0 5))) hx hb hts tw_fs_D hown hK hP (List.mem_append_left _ (hks.1 0 (by decide))) (cw_C0 ad ca _ _ _ _) rfl 5 (by decide) (hts _ tw_fl_D_181) rfl rfl dd_D_accept_41 ?_
    rw [cs_nM_ne M _ (show (0 : Nat) ≠ 20 + N 6 0 by omega), hM5]
    refine lv_iconst (v := nI 1) hx hb dd_D_accept_44 (by decide) ?_
    refine lv_iadd hx hb dd_D_accept_45 ?_
    rw [nI_add]
    refine cw_put1 (k := 0) (C := rn_D) (T := ft_D) (NF := 9) (v := .int (nI ((N 6 0) + 1))) (ty := fy_D 5) (M' := (sp_u (cs_nM M (N 6 0)) 0 5 ((N 6 0) + 1))) (X' := (cs_nX X (N 6 0) false)) (F' := (cs_AF F (N 6 0) j)) (G' := (cs_nG G (N 6 0))) hx hb hts tw_fs_D fy_D fo_D fn_D hown hK hP (cw_DA hJ2 hA2 ca (cs_nM M (N 6 0)) (cs_nX X (N 6 0) false) (cs_AF F (N 6 0) j) (cs_nG G (N 6 0))) hS (List.mem_append_left _ (hks.1 0 (by decide))) (cw_C0 ad ca _ _ _ _) rfl 5 (by decide) (hts _ tw_fl_D_181) rfl rfl (fo_D 5 (by decide)) rfl rfl (Nat.le_of_ble_eq_true rfl) (fun _ hq => sp_u_f _ _ _ hq) (fun _ _ => rfl) (fun _ _ => rfl) (fun _ _ => rfl) (by rw [sp_u_k]; exact (cw_C0 ad ca _ _ _ _)) dd_D_accept_46 (fun H locs hP hS => ?_)
    refine lv_aload_n hx hb dd_D_accept_49 rfl (lv_at hl 0 rfl) ?_
    have eX : cs_nX X (N 6 0) (bar && decide (3 ≤ j)) = cs_nX X (N 6 0) false := by rw [h10]; rfl
    exact W.aret hx hb hr (Or.inl ⟨_, rfl⟩) (Or.inr ⟨_, rfl⟩) (fun tt htt hWW => ⟨⟨(), _, rfl, trivial, rfl, by rw [htt, eX]; exact hP, va_K.moved hWW.alike hK⟩, hS.F htt⟩) hS.2.2 dd_D_accept_50
  · refine lv_aload_n hx hb dd_D_accept_13 rfl (lv_at hl 1 rfl) ?_
    refine cw_calli (k := 8 + j) (C := rn_Q) (T := ft_Q) (NF := 10) (As := []) (rest := [.ref (ad (8 + j)), .int (nI (N 6 0)), .ref (ad (20 + N 6 0)), .ref (ad (20 + N 6 0))]) (v := bd_b (decide (j < 3))) ⟨hx, hb, hml, hown, hts⟩ (cc_Q_isRoot l D ks ad ca M X F G N O B hC hks hMB j hj) (bg_cwV 0 hts tw_ml_D_51 tw_im_Q_isRoot tw_se_Q_isRoot tw_in_Q tw_co_Q_isRoot rfl rfl th_Q_isRoot ⟨Nat.le_of_ble_eq_true rfl, Nat.le_of_ble_eq_true rfl⟩) hK hP (hks.2.1 _ hj) (cw_CQ (Nat.lt_of_lt_of_le hj (cl_12 hC)) ad ca _ _ _ _) rfl rfl hl.1 rfl (Nat.le_of_ble_eq_true rfl) dd_D_accept_14 ⟨Nat.le_of_ble_eq_true rfl, Nat.le_of_ble_eq_true rfl⟩ ?_
    refine bq_zne (tgt := 24) hx hb dd_D_accept_17 rfl (fun h17 => ?_) (fun h17 => ?_)
    · refine lv_iconst (v := bd_b false) hx hb dd_D_accept_24 (by decide) ?_
      refine cw_callI (As := [.int (nI (N 6 0)), .ref (ad (8 + j)), .int (bd_b false)]) (rest := [.ref (ad (20 + N 6 0))]) ⟨hx, hb, hml, hown, hts⟩ (ci_B_init l D (ad (20 + N 6 0)) (N 6 0) (ad (8 + j)) false) ⟨callB_of 3 hts (bg_G tw_co_B_init) rfl rfl rfl (hts _ tw_in_B) (hts _ tw_ml_D_184) th_B_init.2 ⟨Nat.le_of_ble_eq_true rfl, Nat.le_of_ble_eq_true rfl⟩, rfl, hts _ tw_im_B_init⟩ hK hN hS (Or.inr (Nat.le_refl _)) rfl hl.1 rfl (Nat.le_of_ble_eq_true rfl) dd_D_accept_25 ⟨Nat.le_of_ble_eq_true rfl, Nat.le_of_ble_eq_true rfl⟩ (fun H1 locs hN hk9 hS => ?_)
      have hP : va_P D vw_cl (cw_W ks ad ca M X F G) H1 := hP.kept (fun k q hq => hk9 q.1 (hP k q hq).lt (fun e9 => by
        obtain ⟨a, a1, rfl⟩ := cw_key hq
        have hak := List.mem_of_getElem? a1
        have h9 := cw_inj hJ2 (List.mem_append_left _ hak) (List.mem_append_right _ (List.mem_singleton.mpr rfl)) e9
        exact hnk (h9 ▸ hak)))
      have hP : va_P D vw_cl (cw_W (ks ++ [20 + N 6 0]) ad ca (cs_nM M (N 6 0)) (cs_nX X (N 6 0) false) (cs_nF F (N 6 0) j) (cs_nG G (N 6 0))) H1 := cw_join hnk hP (by rw [cs_n_cell]; exact hN)
      refine lv_astore_n hx hb dd_D_accept_28 rfl hl (by decide) rfl (fun ls hl => ?_)
      have hl : lv_has ls 4 [(3, .ref (ad (20 + N 6 0))), (0, .ref (ad 0)), (1, .ref (ad (8 + j))), (2, .int (bd_b bar))] := hl
      refine lv_aload_n hx hb dd_D_accept_29 rfl (lv_at hl 1 rfl) ?_
      refine cw_getk (k := 0) (C := rn_D) (T := ft_D) (NF := 9) hx hb hts tw_fs_D hown hK hP (List.mem_append_left _ (hks.1 0 (by decide))) (cw_C0 ad ca _ _ _ _) rfl 2 (by decide) (hts _ tw_fl_D_30) rfl rfl (by rw [cs_nF_ne _ _ _ (by omega)]; exact cl_F2 hC) dd_D_accept_30 ?_
      refine lv_aload_n hx hb dd_D_accept_33 rfl (lv_at hl 1 rfl) ?_
      refine cw_get1 (k := 0) (C := rn_D) (T := ft_D) (NF := 9) (v := .int (nI ((cs_nM M (N 6 0)) 0 5))) hx hb hts tw_fs_D hown hK hP (List.mem_append_left _ (hks.1 0 (by decide))) (cw_C0 ad ca _ _ _ _) rfl 5 (by decide) (hts _ tw_fl_D_181) rfl rfl dd_D_accept_34 ?_
      rw [cs_nM_ne M _ (show (0 : Nat) ≠ 20 + N 6 0 by omega), hM5]
      refine lv_aload_n hx hb dd_D_accept_37 rfl (lv_at hl 0 rfl) ?_
      refine cw_aast (k := 2) (t0 := 1) (v := 20 + N 6 0) hx hb hK hP (cw_DA hJ2 hA2 ca (cs_nM M (N 6 0)) (cs_nX X (N 6 0) false) (cs_nF F (N 6 0) j) (cs_nG G (N 6 0))) hS (List.mem_append_left _ (hks.1 2 (by decide))) (by decide) (by decide) rfl (j := N 6 0) (show N 6 0 < cw_n 2 from h6) (List.mem_append_right _ (List.mem_singleton.mpr rfl)) (cw_CB _ ad ca _ _ _ _) rfl dd_D_accept_38 (fun H1 locs hP hS => ?_)
      have hP : va_P D vw_cl (cw_W (ks ++ [20 + N 6 0]) ad ca (cs_nM M (N 6 0)) (cs_nX X (N 6 0) false) (cs_AF F (N 6 0) j) (cs_nG G (N 6 0))) H1 := hP
      refine lv_aload_n hx hb dd_D_accept_39 rfl (lv_at hl 1 rfl) ?_
      refine lv_dup hx hb dd_D_accept_40 rfl ?_
      refine cw_get1 (k := 0) (C := rn_D) (T := ft_D) (NF := 9) (v := .int (nI ((cs_nM M (N 6 0)) 0 5))) hx hb hts tw_fs_D hown hK hP (List.mem_append_left _ (hks.1 0 (by decide))) (cw_C0 ad ca _ _ _ _) rfl 5 (by decide) (hts _ tw_fl_D_181) rfl rfl dd_D_accept_41 ?_
      rw [cs_nM_ne M _ (show (0 : Nat) ≠ 20 + N 6 0 by omega), hM5]
      refine lv_iconst (v := nI 1) hx hb dd_D_accept_44 (by decide) ?_
      refine lv_iadd hx hb dd_D_accept_45 ?_
      rw [nI_add]
      refine cw_put1 (k := 0) (C := rn_D) (T := ft_D) (NF := 9) (v := .int (nI ((N 6 0) + 1))) (ty := fy_D 5) (M' := (sp_u (cs_nM M (N 6 0)) 0 5 ((N 6 0) + 1))) (X' := (cs_nX X (N 6 0) false)) (F' := (cs_AF F (N 6 0) j)) (G' := (cs_nG G (N 6 0))) hx hb hts tw_fs_D fy_D fo_D fn_D hown hK hP (cw_DA hJ2 hA2 ca (cs_nM M (N 6 0)) (cs_nX X (N 6 0) false) (cs_AF F (N 6 0) j) (cs_nG G (N 6 0))) hS (List.mem_append_left _ (hks.1 0 (by decide))) (cw_C0 ad ca _ _ _ _) rfl 5 (by decide) (hts _ tw_fl_D_181) rfl rfl (fo_D 5 (by decide)) rfl rfl (Nat.le_of_ble_eq_true rfl) (fun _ hq => sp_u_f _ _ _ hq) (fun _ _ => rfl) (fun _ _ => rfl) (fun _ _ => rfl) (by rw [sp_u_k]; exact (cw_C0 ad ca _ _ _ _)) dd_D_accept_46 (fun H locs hP hS => ?_)
      refine lv_aload_n hx hb dd_D_accept_49 rfl (lv_at hl 0 rfl) ?_
      have eX : cs_nX X (N 6 0) (bar && decide (3 ≤ j)) = cs_nX X (N 6 0) false := by rw [h10, decide_eq_false (by have h9 := of_decide_eq_true h17; omega)]; rfl
      exact W.aret hx hb hr (Or.inl ⟨_, rfl⟩) (Or.inr ⟨_, rfl⟩) (fun tt htt hWW => ⟨⟨(), _, rfl, trivial, rfl, by rw [htt, eX]; exact hP, va_K.moved hWW.alike hK⟩, hS.F htt⟩) hS.2.2 dd_D_accept_50
    · refine lv_iconst (v := bd_b true) hx hb dd_D_accept_20 (by decide) ?_
      refine lv_goto (tgt := 25) hx hb dd_D_accept_21 rfl ?_
      refine cw_callI (As := [.int (nI (N 6 0)), .ref (ad (8 + j)), .int (bd_b true)]) (rest := [.ref (ad (20 + N 6 0))]) ⟨hx, hb, hml, hown, hts⟩ (ci_B_init l D (ad (20 + N 6 0)) (N 6 0) (ad (8 + j)) true) ⟨callB_of 3 hts (bg_G tw_co_B_init) rfl rfl rfl (hts _ tw_in_B) (hts _ tw_ml_D_184) th_B_init.2 ⟨Nat.le_of_ble_eq_true rfl, Nat.le_of_ble_eq_true rfl⟩, rfl, hts _ tw_im_B_init⟩ hK hN hS (Or.inr (Nat.le_refl _)) rfl hl.1 rfl (Nat.le_of_ble_eq_true rfl) dd_D_accept_25 ⟨Nat.le_of_ble_eq_true rfl, Nat.le_of_ble_eq_true rfl⟩ (fun H1 locs hN hk9 hS => ?_)
      have hP : va_P D vw_cl (cw_W ks ad ca M X F G) H1 := hP.kept (fun k q hq => hk9 q.1 (hP k q hq).lt (fun e9 => by
        obtain ⟨a, a1, rfl⟩ := cw_key hq
        have hak := List.mem_of_getElem? a1
        have h9 := cw_inj hJ2 (List.mem_append_left _ hak) (List.mem_append_right _ (List.mem_singleton.mpr rfl)) e9
        exact hnk (h9 ▸ hak)))
      have hP : va_P D vw_cl (cw_W (ks ++ [20 + N 6 0]) ad ca (cs_nM M (N 6 0)) (cs_nX X (N 6 0) true) (cs_nF F (N 6 0) j) (cs_nG G (N 6 0))) H1 := cw_join hnk hP (by rw [cs_n_cell]; exact hN)
      refine lv_astore_n hx hb dd_D_accept_28 rfl hl (by decide) rfl (fun ls hl => ?_)
      have hl : lv_has ls 4 [(3, .ref (ad (20 + N 6 0))), (0, .ref (ad 0)), (1, .ref (ad (8 + j))), (2, .int (bd_b bar))] := hl
      refine lv_aload_n hx hb dd_D_accept_29 rfl (lv_at hl 1 rfl) ?_
      refine cw_getk (k := 0) (C := rn_D) (T := ft_D) (NF := 9) hx hb hts tw_fs_D hown hK hP (List.mem_append_left _ (hks.1 0 (by decide))) (cw_C0 ad ca _ _ _ _) rfl 2 (by decide) (hts _ tw_fl_D_30) rfl rfl (by rw [cs_nF_ne _ _ _ (by omega)]; exact cl_F2 hC) dd_D_accept_30 ?_
      refine lv_aload_n hx hb dd_D_accept_33 rfl (lv_at hl 1 rfl) ?_
      refine cw_get1 (k := 0) (C := rn_D) (T := ft_D) (NF := 9) (v := .int (nI ((cs_nM M (N 6 0)) 0 5))) hx hb hts tw_fs_D hown hK hP (List.mem_append_left _ (hks.1 0 (by decide))) (cw_C0 ad ca _ _ _ _) rfl 5 (by decide) (hts _ tw_fl_D_181) rfl rfl dd_D_accept_34 ?_
      rw [cs_nM_ne M _ (show (0 : Nat) ≠ 20 + N 6 0 by omega), hM5]
      refine lv_aload_n hx hb dd_D_accept_37 rfl (lv_at hl 0 rfl) ?_
      refine cw_aast (k := 2) (t0 := 1) (v := 20 + N 6 0) hx hb hK hP (cw_DA hJ2 hA2 ca (cs_nM M (N 6 0)) (cs_nX X (N 6 0) true) (cs_nF F (N 6 0) j) (cs_nG G (N 6 0))) hS (List.mem_append_left _ (hks.1 2 (by decide))) (by decide) (by decide) rfl (j := N 6 0) (show N 6 0 < cw_n 2 from h6) (List.mem_append_right _ (List.mem_singleton.mpr rfl)) (cw_CB _ ad ca _ _ _ _) rfl dd_D_accept_38 (fun H1 locs hP hS => ?_)
      have hP : va_P D vw_cl (cw_W (ks ++ [20 + N 6 0]) ad ca (cs_nM M (N 6 0)) (cs_nX X (N 6 0) true) (cs_AF F (N 6 0) j) (cs_nG G (N 6 0))) H1 := hP
      refine lv_aload_n hx hb dd_D_accept_39 rfl (lv_at hl 1 rfl) ?_
      refine lv_dup hx hb dd_D_accept_40 rfl ?_
      refine cw_get1 (k := 0) (C := rn_D) (T := ft_D) (NF := 9) (v := .int (nI ((cs_nM M (N 6 0)) 0 5))) hx hb hts tw_fs_D hown hK hP (List.mem_append_left _ (hks.1 0 (by decide))) (cw_C0 ad ca _ _ _ _) rfl 5 (by decide) (hts _ tw_fl_D_181) rfl rfl dd_D_accept_41 ?_
      rw [cs_nM_ne M _ (show (0 : Nat) ≠ 20 + N 6 0 by omega), hM5]
      refine lv_iconst (v := nI 1) hx hb dd_D_accept_44 (by decide) ?_
      refine lv_iadd hx hb dd_D_accept_45 ?_
      rw [nI_add]
      refine cw_put1 (k := 0) (C := rn_D) (T := ft_D) (NF := 9) (v := .int (nI ((N 6 0) + 1))) (ty := fy_D 5) (M' := (sp_u (cs_nM M (N 6 0)) 0 5 ((N 6 0) + 1))) (X' := (cs_nX X (N 6 0) true)) (F' := (cs_AF F (N 6 0) j)) (G' := (cs_nG G (N 6 0))) hx hb hts tw_fs_D fy_D fo_D fn_D hown hK hP (cw_DA hJ2 hA2 ca (cs_nM M (N 6 0)) (cs_nX X (N 6 0) true) (cs_AF F (N 6 0) j) (cs_nG G (N 6 0))) hS (List.mem_append_left _ (hks.1 0 (by decide))) (cw_C0 ad ca _ _ _ _) rfl 5 (by decide) (hts _ tw_fl_D_181) rfl rfl (fo_D 5 (by decide)) rfl rfl (Nat.le_of_ble_eq_true rfl) (fun _ hq => sp_u_f _ _ _ hq) (fun _ _ => rfl) (fun _ _ => rfl) (fun _ _ => rfl) (by rw [sp_u_k]; exact (cw_C0 ad ca _ _ _ _)) dd_D_accept_46 (fun H locs hP hS => ?_)
      refine lv_aload_n hx hb dd_D_accept_49 rfl (lv_at hl 0 rfl) ?_
      have eX : cs_nX X (N 6 0) (bar && decide (3 ≤ j)) = cs_nX X (N 6 0) true := by rw [h10, decide_eq_true (by have h9 := of_decide_eq_false h17; omega)]; rfl
      exact W.aret hx hb hr (Or.inl ⟨_, rfl⟩) (Or.inr ⟨_, rfl⟩) (fun tt htt hWW => ⟨⟨(), _, rfl, trivial, rfl, by rw [htt, eX]; exact hP, va_K.moved hWW.alike hK⟩, hS.F htt⟩) hS.2.2 dd_D_accept_50

