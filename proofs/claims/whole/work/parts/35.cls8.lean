/-! Part 35: the class: submit, after, call, whenDone. By wip/gen/gen_cls8.py. -/
set_option maxHeartbeats 4000000 in
set_option maxRecDepth 100000 in
theorem cc_D_submit (l : Launch) (D : va_G) (ks : List Nat) (ad : Nat → Nat) (ca : Nat → ClassId) (hJ : cw_J ks ad) (M : sp_N) (X : sp_B) (F : sp_O) (G : sp_Z) (N : sp_N) (O : sp_O) (B : sp_B) (hC : cl_S M X F N O B) (hks : cl_k ks N) (hMB : cl_B M) (hJ2 : cw_J (ks ++ [20 + N 6 0]) ad) (hnk : 20 + N 6 0 ∉ ks) (q : Int32) (bar : Bool) (gi : Int32) : Met l my_D_submit (Cond.code my_D_submit cd_D_submit 7 (some .int) :: bg_tbl) ({ frames := 3, cells := 1, slots := 11, locals := 58 }) (va_Pc [.ref (ad 0), .int q, .int (bd_b bar), .int gi] (fun U => U.heap.size = ad (20 + N 6 0) ∧ cw_U D ks ad ca M X F G U)) (va_Qi (fun r (_ : Unit) => r = am_submit N (bd_at q (N 1 0)) (bd_gr gi)) (fun _ uu => cw_Ut D ad ca (cu_submit ks M X F G N bar (bd_at q (N 1 0)) (bd_gr gi)) uu) (cw_A2 ks ad (ad (20 + N 6 0)))) 1 11 (cw_A2 ks ad (ad (20 + N 6 0))) := by
  refine Met.ofW (cc := cd_D_submit) (maxL := 7) (ret := (some .int)) (by decide) rfl ?_
  intro p e s m args below meth c s₁ BB hml hv
  obtain ⟨rfl, hsz, hP, hK⟩ := hv
  have hx := BB.exec
  have hb := BB.bytes
  have hr := BB.returns
  have hts : ∀ w ∈ bg_tbl, w.before ([.ref (ad 0), .int q, .int (bd_b bar), .int gi] : List Value).toArray s = true := fun w h => atoms_spec (ws := (Cond.code my_D_submit cd_D_submit 7 (some .int) :: bg_tbl)) BB.pre w (List.mem_cons_of_mem _ h)
  have hown : s.vm.findClass rn_D = some m.cls := findClass_of_methodNamed BB.named
  have hlocks := BB.notSynchronized
  have h12 := cl_12 hC
  have h160 := cl_160 hC
  have h3q := cl_3 hC
  have hM4 := cl_M4 hC
  have hM5 := cl_M5 hC
  have hS : va_S (cw_A2 ks ad (ad (20 + N 6 0))) s.heap s.heap [] := va_S.rf
  have hA2 : ∀ k, k ∈ (ks ++ [20 + N 6 0]) → (cw_A2 ks ad (ad (20 + N 6 0))) (ad k) := fun k hk => by
    rcases List.mem_append.mp hk with h | h
    · exact Or.inl ⟨k, h, rfl⟩
    · rw [List.mem_singleton.mp h]; exact Or.inr (Nat.le_refl _)
  have hA3 : ∀ q, cw_A (ks ++ [20 + N 6 0]) ad q → (cw_A2 ks ad (ad (20 + N 6 0))) q := fun q ⟨k, hk, e⟩ => by rw [e]; exact hA2 k hk
  have hl := lv_entry ([.ref (ad 0), .int q, .int (bd_b bar), .int gi]) (n := 7) (Nat.le_of_ble_eq_true rfl)
  rw [lg_entry_eq]
  generalize (lg_sl ([.ref (ad 0), .int q, .int (bd_b bar), .int gi]) ++ List.replicate (7 - (lg_sl ([.ref (ad 0), .int q, .int (bd_b bar), .int gi])).length) Slot.unset).toArray = ls at hl ⊢
  have hl : lv_has ls 7 [(0, .ref (ad 0)), (1, .int q), (2, .int (bd_b bar)), (3, .int gi)] := hl
  refine lv_aload_n hx hb dd_D_submit_0 rfl (lv_at hl 0 rfl) ?_
  refine lv_iload_n hx hb dd_D_submit_1 rfl (lv_at hl 1 rfl) ?_
  refine cw_callq (k := 0) (C := rn_D) (T := ft_D) (NF := 9) (As := [.int q]) (rest := []) ⟨hx, hb, hml, hown, hts⟩ (cc_D_queueAt l D ks ad ca M X F G N O B hC hks hMB q) (bg_cwV 1 hts tw_ml_D_47 tw_im_D_queueAt tw_se_D_queueAt tw_in_D tw_co_D_queueAt rfl rfl th_D_queueAt ⟨Nat.le_of_ble_eq_true rfl, Nat.le_of_ble_eq_true rfl⟩) hK hP (hks.1 0 (by decide)) (cw_C0 ad ca _ _ _ _) rfl rfl hl.1 rfl (Nat.le_of_ble_eq_true rfl) dd_D_submit_2 ⟨Nat.zero_le _, Nat.zero_le _⟩ (fun h2 => ?_) (fun k9 h2 => ?_)
  · have hq2 := bd_map_n h2
    refine lv_astoreN hx hb dd_D_submit_5 hl (by decide) rfl (fun ls hl => ?_)
    have hl : lv_has ls 7 [(4, .null), (0, .ref (ad 0)), (1, .int q), (2, .int (bd_b bar)), (3, .int gi)] := hl
    refine lv_aloadN hx hb dd_D_submit_7 (lv_at hl 0 rfl) ?_
    refine lv_ifnonnullN hx hb dd_D_submit_9 ?_
    refine lv_iconst (v := -1) hx hb dd_D_submit_12 (by decide) ?_
    have eU : cu_submit ks M X F G N bar (bd_at q (N 1 0)) (bd_gr gi) = (ks, M, X, F, G) := by simp only [hq2]; simp [cu_submit, cs_mM, cs_mF]
    refine W.widen (k := 1) (n := 11) (Nat.zero_le _) (Nat.zero_le _) ?_
    exact W.iret hx hb hr (fun tt htt hWW => ⟨⟨_, (), rfl, (by simp only [hq2]; simp [am_submit]), by rw [eU]; exact ⟨by rw [htt]; exact hP, va_K.moved hWW.alike hK⟩⟩, hS.F htt⟩) hS.2.2 dd_D_submit_13
  · obtain ⟨a2, hq2, hl2, rfl, rfl⟩ := bd_map_s (by omega) h2
    refine lv_astore hx hb dd_D_submit_5 hl (by decide) rfl (fun ls hl => ?_)
    have hl : lv_has ls 7 [(4, .ref (ad (8 + a2))), (0, .ref (ad 0)), (1, .int (nI a2)), (2, .int (bd_b bar)), (3, .int gi)] := hl
    refine lv_aload hx hb dd_D_submit_7 (lv_at hl 0 rfl) ?_
    refine lv_ifnonnull (tgt := 14) hx hb dd_D_submit_9 rfl ?_
    refine lv_aload_n hx hb dd_D_submit_14 rfl (lv_at hl 1 rfl) ?_
    refine lv_iload_n hx hb dd_D_submit_15 rfl (lv_at hl 4 rfl) ?_
    refine cw_callq (k := 0) (C := rn_D) (T := ft_D) (NF := 9) (As := [.int gi]) (rest := []) ⟨hx, hb, hml, hown, hts⟩ (cc_D_groupAt l D ks ad ca M X F G N O B hC hks hMB gi) (bg_cwV 1 hts tw_ml_D_66 tw_im_D_groupAt tw_se_D_groupAt tw_in_D tw_co_D_groupAt rfl rfl th_D_groupAt ⟨Nat.le_of_ble_eq_true rfl, Nat.le_of_ble_eq_true rfl⟩) hK hP (hks.1 0 (by decide)) (cw_C0 ad ca _ _ _ _) rfl rfl hl.1 rfl (Nat.le_of_ble_eq_true rfl) dd_D_submit_16 ⟨Nat.zero_le _, Nat.zero_le _⟩ (fun h16 => ?_) (fun k9 h16 => ?_)
    · have hq16 := bd_map_n h16
      refine lv_astoreN hx hb dd_D_submit_19 hl (by decide) rfl (fun ls hl => ?_)
      have hl : lv_has ls 7 [(5, .null), (4, .ref (ad (8 + a2))), (0, .ref (ad 0)), (1, .int (nI a2)), (2, .int (bd_b bar)), (3, .int gi)] := hl
      refine lv_aloadN hx hb dd_D_submit_21 (lv_at hl 0 rfl) ?_
      refine lv_ifnonnullN hx hb dd_D_submit_23 ?_
      refine lv_iload_n hx hb dd_D_submit_26 rfl (lv_at hl 5 rfl) ?_
      refine lv_iconst (v := -1) hx hb dd_D_submit_27 (by decide) ?_
      refine lv_icmp_eq (tgt := 34) hx hb dd_D_submit_28 rfl (fun h28 => ?_) (fun h28 => ?_)
      · have hg9w := bd_gr_b h28
        refine lv_aload_n hx hb dd_D_submit_34 rfl (lv_at hl 2 rfl) ?_
        refine cw_calli (k := 0) (C := rn_D) (T := ft_D) (NF := 9) (As := []) (rest := []) (v := bd_b (decide (160 ≤ N 6 0))) ⟨hx, hb, hml, hown, hts⟩ (cc_D_isFull l D ks ad ca M X F G N O B hC hks hMB) (bg_cwV 0 hts tw_ml_D_70 tw_im_D_isFull tw_se_D_isFull tw_in_D tw_co_D_isFull rfl rfl th_D_isFull ⟨Nat.le_of_ble_eq_true rfl, Nat.le_of_ble_eq_true rfl⟩) hK hP (hks.1 0 (by decide)) (cw_C0 ad ca _ _ _ _) rfl rfl hl.1 rfl (Nat.le_of_ble_eq_true rfl) dd_D_submit_35 ⟨Nat.zero_le _, Nat.zero_le _⟩ ?_
        refine bq_zeq (tgt := 44) hx hb dd_D_submit_38 rfl (fun h38 => ?_) (fun h38 => ?_)
        · have h38f : ¬ N 6 0 = 160 := by have h9 := of_decide_eq_false h38; omega
          refine lv_aload_n hx hb dd_D_submit_44 rfl (lv_at hl 2 rfl) ?_
          refine lv_aload hx hb dd_D_submit_45 (lv_at hl 1 rfl) ?_
          refine lv_iload_n hx hb dd_D_submit_47 rfl (lv_at hl 4 rfl) ?_
          have h6 : N 6 0 < 160 := by omega
          refine cw_callacc (k := 0) (C := rn_D) (T := ft_D) (NF := 9) (As := [.ref (ad (8 + a2)), .int (bd_b bar)]) (rest := []) (nk := 20 + N 6 0) ⟨hx, hb, hml, hown, hts⟩ (cc_D_accept l D ks ad ca hJ M X F G N O B hC hks hMB hJ2 hnk h6 a2 bar hl2) (bg_cwV 2 hts tw_ml_D_73 tw_im_D_accept tw_se_D_accept tw_in_D tw_co_D_accept rfl rfl th_D_accept ⟨Nat.le_of_ble_eq_true rfl, Nat.le_of_ble_eq_true rfl⟩) hsz hK hP hS (hks.1 0 (by decide)) (cw_C0 ad ca _ _ _ _) rfl rfl hl.1 rfl (Nat.le_of_ble_eq_true rfl) dd_D_submit_48 ⟨Nat.le_of_ble_eq_true rfl, Nat.le_of_ble_eq_true rfl⟩ (fun H locs hP hS => ?_)
          refine W.widen (k := 1) (n := 11) (Nat.le_refl _) (Nat.le_refl _) ?_
          refine lv_astore hx hb dd_D_submit_51 hl (by decide) rfl (fun ls hl => ?_)
          have hl : lv_has ls 7 [(6, .ref (ad (20 + N 6 0))), (5, .null), (4, .ref (ad (8 + a2))), (0, .ref (ad 0)), (1, .int (nI a2)), (2, .int (bd_b bar)), (3, .int gi)] := hl
          refine lv_aloadN hx hb dd_D_submit_53 (lv_at hl 1 rfl) ?_
          refine lv_ifnullN (tgt := 76) hx hb dd_D_submit_55 rfl ?_
          refine lv_aload_n hx hb dd_D_submit_76 rfl (lv_at hl 3 rfl) ?_
          refine lv_aload hx hb dd_D_submit_77 (lv_at hl 0 rfl) ?_
          refine cw_callwvA (k := 0) (C := rn_D) (T := ft_D) (NF := 9) (As := [.ref (ad (20 + N 6 0))]) (rest := []) ⟨hx, hb, hml, hown, hts⟩ (cc_D_line l D (ks ++ [20 + N 6 0]) ad ca hJ2 (cs_AM M (N 6 0)) (cs_nX X (N 6 0) (bar && decide (3 ≤ a2))) (cs_AF F (N 6 0) a2) (cs_nG G (N 6 0)) (sp_AN N a2) (sp_AO N O) (sp_AB N B a2 bar) (cl_S_A hC h6 hl2 bar) (cl_k_A hks a2) (N 6 0) (show N 6 0 < N 6 0 + 1 from Nat.lt_succ_self _)) (bg_cwV 1 hts tw_ml_D_84 tw_im_D_line tw_se_D_line tw_in_D tw_co_D_line rfl rfl th_D_line ⟨Nat.le_of_ble_eq_true rfl, Nat.le_of_ble_eq_true rfl⟩) hA3 hK hP hS (List.mem_append_left _ (hks.1 0 (by decide))) (cw_C0 ad ca _ _ _ _) rfl rfl hl.1 rfl (Nat.le_of_ble_eq_true rfl) dd_D_submit_79 ⟨Nat.le_of_ble_eq_true rfl, Nat.le_of_ble_eq_true rfl⟩ (fun H locs hP hS => ?_)
          refine lv_aload hx hb dd_D_submit_82 (lv_at hl 0 rfl) ?_
          refine cw_get1 (k := 20 + N 6 0) (C := rn_B) (T := ft_B) (NF := 11) (v := .int (nI ((cs_lM (cs_AM M (N 6 0)) (sp_AN N a2) (N 6 0)) (20 + N 6 0) 0))) hx hb hts tw_fs_B hown hK hP (List.mem_append_right _ (List.mem_singleton.mpr rfl)) (cw_CB _ ad ca _ _ _ _) rfl 0 (by decide) (hts _ tw_fl_D_88) rfl rfl dd_D_submit_84 ?_
          rw [cl_bn (cl_S_l (cl_S_A hC h6 hl2 bar) (show N 6 0 < N 6 0 + 1 from Nat.lt_succ_self _)) (show N 6 0 < N 6 0 + 1 from Nat.lt_succ_self _)]
          have eU : cu_submit ks M X F G N bar (bd_at (nI a2) (N 1 0)) (bd_gr gi) = (ks ++ [20 + N 6 0], cs_lM (cs_AM M (N 6 0)) (sp_AN N a2) (N 6 0), cs_nX X (N 6 0) (bar && decide (3 ≤ a2)), cs_aF (cs_AF F (N 6 0) a2) (sp_AN N a2 7 (N 6 0)) (N 6 0), cs_nG G (N 6 0)) := by simp only [hq2, hg9w]; simp [cu_submit, cs_mM, cs_mF, h38f]
          exact W.iret hx hb hr (fun tt htt hWW => ⟨⟨_, (), rfl, (by simp only [hq2, hg9w]; simp [am_submit, h38f]), by rw [eU]; exact ⟨by rw [htt]; exact hP, va_K.moved hWW.alike hK⟩⟩, hS.F htt⟩) hS.2.2 dd_D_submit_87
        · have h38f : N 6 0 = 160 := by have h9 := of_decide_eq_true h38; omega
          refine lv_bipush (v := -4) hx hb dd_D_submit_41 (by decide) ?_
          have eU : cu_submit ks M X F G N bar (bd_at (nI a2) (N 1 0)) (bd_gr gi) = (ks, M, X, F, G) := by simp only [hq2, hg9w]; simp [cu_submit, cs_mM, cs_mF, h38f]
          refine W.widen (k := 1) (n := 11) (Nat.zero_le _) (Nat.zero_le _) ?_
          exact W.iret hx hb hr (fun tt htt hWW => ⟨⟨_, (), rfl, (by simp only [hq2, hg9w]; simp [am_submit, h38f]), by rw [eU]; exact ⟨by rw [htt]; exact hP, va_K.moved hWW.alike hK⟩⟩, hS.F htt⟩) hS.2.2 dd_D_submit_43
      · have hg9w := bd_gr_c hq16 h28
        refine lv_bipush (v := -2) hx hb dd_D_submit_31 (by decide) ?_
        have eU : cu_submit ks M X F G N bar (bd_at (nI a2) (N 1 0)) (bd_gr gi) = (ks, M, X, F, G) := by simp only [hq2, hg9w]; simp [cu_submit, cs_mM, cs_mF]
        refine W.widen (k := 1) (n := 11) (Nat.zero_le _) (Nat.zero_le _) ?_
        exact W.iret hx hb hr (fun tt htt hWW => ⟨⟨_, (), rfl, (by simp only [hq2, hg9w]; simp [am_submit]), by rw [eU]; exact ⟨by rw [htt]; exact hP, va_K.moved hWW.alike hK⟩⟩, hS.F htt⟩) hS.2.2 dd_D_submit_33
    · obtain ⟨a16, hq16, hl16, rfl, rfl⟩ := bd_map_s (by omega) h16
      have hg9w := bd_gr_a hq16
      refine lv_astore hx hb dd_D_submit_19 hl (by decide) rfl (fun ls hl => ?_)
      have hl : lv_has ls 7 [(5, .ref (ad (4 + a16))), (4, .ref (ad (8 + a2))), (0, .ref (ad 0)), (1, .int (nI a2)), (2, .int (bd_b bar)), (3, .int (nI a16))] := hl
      refine lv_aload hx hb dd_D_submit_21 (lv_at hl 0 rfl) ?_
      refine lv_ifnonnull (tgt := 34) hx hb dd_D_submit_23 rfl ?_
      refine lv_aload_n hx hb dd_D_submit_34 rfl (lv_at hl 2 rfl) ?_
      refine cw_calli (k := 0) (C := rn_D) (T := ft_D) (NF := 9) (As := []) (rest := []) (v := bd_b (decide (160 ≤ N 6 0))) ⟨hx, hb, hml, hown, hts⟩ (cc_D_isFull l D ks ad ca M X F G N O B hC hks hMB) (bg_cwV 0 hts tw_ml_D_70 tw_im_D_isFull tw_se_D_isFull tw_in_D tw_co_D_isFull rfl rfl th_D_isFull ⟨Nat.le_of_ble_eq_true rfl, Nat.le_of_ble_eq_true rfl⟩) hK hP (hks.1 0 (by decide)) (cw_C0 ad ca _ _ _ _) rfl rfl hl.1 rfl (Nat.le_of_ble_eq_true rfl) dd_D_submit_35 ⟨Nat.zero_le _, Nat.zero_le _⟩ ?_
      refine bq_zeq (tgt := 44) hx hb dd_D_submit_38 rfl (fun h38 => ?_) (fun h38 => ?_)
      · have h38f : ¬ N 6 0 = 160 := by have h9 := of_decide_eq_false h38; omega
        refine lv_aload_n hx hb dd_D_submit_44 rfl (lv_at hl 2 rfl) ?_
        refine lv_aload hx hb dd_D_submit_45 (lv_at hl 1 rfl) ?_
        refine lv_iload_n hx hb dd_D_submit_47 rfl (lv_at hl 4 rfl) ?_
        have h6 : N 6 0 < 160 := by omega
        refine cw_callacc (k := 0) (C := rn_D) (T := ft_D) (NF := 9) (As := [.ref (ad (8 + a2)), .int (bd_b bar)]) (rest := []) (nk := 20 + N 6 0) ⟨hx, hb, hml, hown, hts⟩ (cc_D_accept l D ks ad ca hJ M X F G N O B hC hks hMB hJ2 hnk h6 a2 bar hl2) (bg_cwV 2 hts tw_ml_D_73 tw_im_D_accept tw_se_D_accept tw_in_D tw_co_D_accept rfl rfl th_D_accept ⟨Nat.le_of_ble_eq_true rfl, Nat.le_of_ble_eq_true rfl⟩) hsz hK hP hS (hks.1 0 (by decide)) (cw_C0 ad ca _ _ _ _) rfl rfl hl.1 rfl (Nat.le_of_ble_eq_true rfl) dd_D_submit_48 ⟨Nat.le_of_ble_eq_true rfl, Nat.le_of_ble_eq_true rfl⟩ (fun H locs hP hS => ?_)
        refine W.widen (k := 1) (n := 11) (Nat.le_refl _) (Nat.le_refl _) ?_
        refine lv_astore hx hb dd_D_submit_51 hl (by decide) rfl (fun ls hl => ?_)
        have hl : lv_has ls 7 [(6, .ref (ad (20 + N 6 0))), (5, .ref (ad (4 + a16))), (4, .ref (ad (8 + a2))), (0, .ref (ad 0)), (1, .int (nI a2)), (2, .int (bd_b bar)), (3, .int (nI a16))] := hl
        refine lv_aload hx hb dd_D_submit_53 (lv_at hl 1 rfl) ?_
        refine lv_ifnull hx hb dd_D_submit_55 ?_
        refine lv_aload hx hb dd_D_submit_58 (lv_at hl 0 rfl) ?_
        refine lv_aload hx hb dd_D_submit_60 (lv_at hl 1 rfl) ?_
        refine cw_put1 (k := 20 + N 6 0) (C := rn_B) (T := ft_B) (NF := 11) (v := .ref (ad (4 + a16))) (ty := fy_B 6) (M' := (cs_AM M (N 6 0))) (X' := (cs_nX X (N 6 0) (bar && decide (3 ≤ a2)))) (F' := (sp_u (cs_AF F (N 6 0) a2) (20 + N 6 0) 6 (some (4 + a16)))) (G' := (cs_nG G (N 6 0))) hx hb hts tw_fs_B fy_B fo_B fn_B hown hK hP (cw_DA hJ2 hA2 ca (cs_AM M (N 6 0)) (cs_nX X (N 6 0) (bar && decide (3 ≤ a2))) (cs_AF F (N 6 0) a2) (cs_nG G (N 6 0))) hS (List.mem_append_right _ (List.mem_singleton.mpr rfl)) (cw_CB _ ad ca _ _ _ _) rfl 6 (by decide) (hts _ tw_fl_D_77) rfl rfl (fo_B 6 (by decide)) rfl rfl (Nat.le_of_ble_eq_true rfl) (fun _ _ => rfl) (fun _ _ => rfl) (fun _ hq => sp_u_f _ _ _ hq) (fun _ _ => rfl) (by rw [sp_u_k (cs_AF F (N 6 0) a2) (20 + N 6 0) 6 (some (4 + a16))]; exact (cw_CB _ ad ca _ _ _ _)) dd_D_submit_62 (fun H locs hP hS => ?_)
        refine lv_aload hx hb dd_D_submit_65 (lv_at hl 1 rfl) ?_
        refine lv_dup hx hb dd_D_submit_67 rfl ?_
        refine cw_get1 (k := 4 + a16) (C := rn_G) (T := ft_G) (NF := 2) (v := .int (nI ((cs_AM M (N 6 0)) (4 + a16) 1))) hx hb hts tw_fs_G hown hK hP (List.mem_append_left _ (hks.1 _ (by omega))) (cw_CG hl16 ad ca _ _ _ _) rfl 1 (by decide) (hts _ tw_fl_D_81) rfl rfl dd_D_submit_68 ?_
        refine lv_iconst (v := nI 1) hx hb dd_D_submit_71 (by decide) ?_
        refine lv_iadd hx hb dd_D_submit_72 ?_
        rw [nI_add]
        refine cw_put1 (k := 4 + a16) (C := rn_G) (T := ft_G) (NF := 2) (v := .int (nI (((cs_AM M (N 6 0)) (4 + a16) 1) + 1))) (ty := fy_G 1) (M' := (sp_u (cs_AM M (N 6 0)) (4 + a16) 1 (((cs_AM M (N 6 0)) (4 + a16) 1) + 1))) (X' := (cs_nX X (N 6 0) (bar && decide (3 ≤ a2)))) (F' := (sp_u (cs_AF F (N 6 0) a2) (20 + N 6 0) 6 (some (4 + a16)))) (G' := (cs_nG G (N 6 0))) hx hb hts tw_fs_G fy_G fo_G fn_G hown hK hP (cw_DA hJ2 hA2 ca (cs_AM M (N 6 0)) (cs_nX X (N 6 0) (bar && decide (3 ≤ a2))) (sp_u (cs_AF F (N 6 0) a2) (20 + N 6 0) 6 (some (4 + a16))) (cs_nG G (N 6 0))) hS (List.mem_append_left _ (hks.1 _ (by omega))) (cw_CG hl16 ad ca _ _ _ _) rfl 1 (by decide) (hts _ tw_fl_D_81) rfl rfl (fo_G 1 (by decide)) rfl rfl (Nat.le_of_ble_eq_true rfl) (fun _ hq => sp_u_f _ _ _ hq) (fun _ _ => rfl) (fun _ _ => rfl) (fun _ _ => rfl) (by rw [sp_u_k (cs_AM M (N 6 0)) (4 + a16) 1 (((cs_AM M (N 6 0)) (4 + a16) 1) + 1)]; exact (cw_CG hl16 ad ca _ _ _ _)) dd_D_submit_73 (fun H locs hP hS => ?_)
        refine lv_aload_n hx hb dd_D_submit_76 rfl (lv_at hl 3 rfl) ?_
        refine lv_aload hx hb dd_D_submit_77 (lv_at hl 0 rfl) ?_
        refine cw_callwvA (k := 0) (C := rn_D) (T := ft_D) (NF := 9) (As := [.ref (ad (20 + N 6 0))]) (rest := []) ⟨hx, hb, hml, hown, hts⟩ (cc_D_line l D (ks ++ [20 + N 6 0]) ad ca hJ2 (sp_u (cs_AM M (N 6 0)) (4 + a16) 1 (((cs_AM M (N 6 0)) (4 + a16) 1) + 1)) (cs_nX X (N 6 0) (bar && decide (3 ≤ a2))) (sp_u (cs_AF F (N 6 0) a2) (20 + N 6 0) 6 (some (4 + a16))) (cs_nG G (N 6 0)) (sp_AN N a2) (sp_u (sp_AO N O) 10 (N 6 0) (some a16)) (sp_AB N B a2 bar) (cl_S_M (cl_S_m (cl_S_A hC h6 hl2 bar) (show N 6 0 < N 6 0 + 1 from Nat.lt_succ_self _) hl16) (by decide) (Or.inl (by omega))) (cl_k_A hks a2) (N 6 0) (show N 6 0 < N 6 0 + 1 from Nat.lt_succ_self _)) (bg_cwV 1 hts tw_ml_D_84 tw_im_D_line tw_se_D_line tw_in_D tw_co_D_line rfl rfl th_D_line ⟨Nat.le_of_ble_eq_true rfl, Nat.le_of_ble_eq_true rfl⟩) hA3 hK hP hS (List.mem_append_left _ (hks.1 0 (by decide))) (cw_C0 ad ca _ _ _ _) rfl rfl hl.1 rfl (Nat.le_of_ble_eq_true rfl) dd_D_submit_79 ⟨Nat.le_of_ble_eq_true rfl, Nat.le_of_ble_eq_true rfl⟩ (fun H locs hP hS => ?_)
        refine lv_aload hx hb dd_D_submit_82 (lv_at hl 0 rfl) ?_
        refine cw_get1 (k := 20 + N 6 0) (C := rn_B) (T := ft_B) (NF := 11) (v := .int (nI ((cs_lM (sp_u (cs_AM M (N 6 0)) (4 + a16) 1 (((cs_AM M (N 6 0)) (4 + a16) 1) + 1)) (sp_AN N a2) (N 6 0)) (20 + N 6 0) 0))) hx hb hts tw_fs_B hown hK hP (List.mem_append_right _ (List.mem_singleton.mpr rfl)) (cw_CB _ ad ca _ _ _ _) rfl 0 (by decide) (hts _ tw_fl_D_88) rfl rfl dd_D_submit_84 ?_
        rw [cl_bn (cl_S_l (cl_S_M (cl_S_m (cl_S_A hC h6 hl2 bar) (show N 6 0 < N 6 0 + 1 from Nat.lt_succ_self _) hl16) (by decide) (Or.inl (by omega))) (show N 6 0 < N 6 0 + 1 from Nat.lt_succ_self _)) (show N 6 0 < N 6 0 + 1 from Nat.lt_succ_self _)]
        have eU : cu_submit ks M X F G N bar (bd_at (nI a2) (N 1 0)) (bd_gr (nI a16)) = (ks ++ [20 + N 6 0], cs_lM (sp_u (cs_AM M (N 6 0)) (4 + a16) 1 (((cs_AM M (N 6 0)) (4 + a16) 1) + 1)) (sp_AN N a2) (N 6 0), cs_nX X (N 6 0) (bar && decide (3 ≤ a2)), cs_aF (sp_u (cs_AF F (N 6 0) a2) (20 + N 6 0) 6 (some (4 + a16))) (sp_AN N a2 7 (N 6 0)) (N 6 0), cs_nG G (N 6 0)) := by simp only [hq2, hg9w]; simp [cu_submit, cs_mM, cs_mF, h38f]
        exact W.iret hx hb hr (fun tt htt hWW => ⟨⟨_, (), rfl, (by simp only [hq2, hg9w]; simp [am_submit, h38f]), by rw [eU]; exact ⟨by rw [htt]; exact hP, va_K.moved hWW.alike hK⟩⟩, hS.F htt⟩) hS.2.2 dd_D_submit_87
      · have h38f : N 6 0 = 160 := by have h9 := of_decide_eq_true h38; omega
        refine lv_bipush (v := -4) hx hb dd_D_submit_41 (by decide) ?_
        have eU : cu_submit ks M X F G N bar (bd_at (nI a2) (N 1 0)) (bd_gr (nI a16)) = (ks, M, X, F, G) := by simp only [hq2, hg9w]; simp [cu_submit, cs_mM, cs_mF, h38f]
        refine W.widen (k := 1) (n := 11) (Nat.zero_le _) (Nat.zero_le _) ?_
        exact W.iret hx hb hr (fun tt htt hWW => ⟨⟨_, (), rfl, (by simp only [hq2, hg9w]; simp [am_submit, h38f]), by rw [eU]; exact ⟨by rw [htt]; exact hP, va_K.moved hWW.alike hK⟩⟩, hS.F htt⟩) hS.2.2 dd_D_submit_43

set_option maxHeartbeats 4000000 in
set_option maxRecDepth 100000 in
theorem cc_D_after (l : Launch) (D : va_G) (ks : List Nat) (ad : Nat → Nat) (ca : Nat → ClassId) (hJ : cw_J ks ad) (M : sp_N) (X : sp_B) (F : sp_O) (G : sp_Z) (N : sp_N) (O : sp_O) (B : sp_B) (hC : cl_S M X F N O B) (hks : cl_k ks N) (hMB : cl_B M) (hJ2 : cw_J (ks ++ [20 + N 6 0]) ad) (hnk : 20 + N 6 0 ∉ ks) (q : Int32) (d : Int64) : Met l my_D_after (Cond.code my_D_after cd_D_after 6 (some .int) :: bg_tbl) ({ frames := 3, cells := 1, slots := 11, locals := 58 }) (va_Pc [.ref (ad 0), .int q, .long d] (fun U => U.heap.size = ad (20 + N 6 0) ∧ cw_U D ks ad ca M X F G U)) (va_Qi (fun r (_ : Unit) => r = am_new N (bd_at q (N 1 0))) (fun _ uu => cw_Ut D ad ca (cu_after ks M X F G N d (bd_at q (N 1 0))) uu) (cw_A2 ks ad (ad (20 + N 6 0)))) 1 11 (cw_A2 ks ad (ad (20 + N 6 0))) := by
  refine Met.ofW (cc := cd_D_after) (maxL := 6) (ret := (some .int)) (by decide) rfl ?_
  intro p e s m args below meth c s₁ BB hml hv
  obtain ⟨rfl, hsz, hP, hK⟩ := hv
  have hx := BB.exec
  have hb := BB.bytes
  have hr := BB.returns
  have hts : ∀ w ∈ bg_tbl, w.before ([.ref (ad 0), .int q, .long d] : List Value).toArray s = true := fun w h => atoms_spec (ws := (Cond.code my_D_after cd_D_after 6 (some .int) :: bg_tbl)) BB.pre w (List.mem_cons_of_mem _ h)
  have hown : s.vm.findClass rn_D = some m.cls := findClass_of_methodNamed BB.named
  have hlocks := BB.notSynchronized
  have h12 := cl_12 hC
  have h160 := cl_160 hC
  have h3q := cl_3 hC
  have hM4 := cl_M4 hC
  have hM5 := cl_M5 hC
  have hS : va_S (cw_A2 ks ad (ad (20 + N 6 0))) s.heap s.heap [] := va_S.rf
  have hA2 : ∀ k, k ∈ (ks ++ [20 + N 6 0]) → (cw_A2 ks ad (ad (20 + N 6 0))) (ad k) := fun k hk => by
    rcases List.mem_append.mp hk with h | h
    · exact Or.inl ⟨k, h, rfl⟩
    · rw [List.mem_singleton.mp h]; exact Or.inr (Nat.le_refl _)
  have hA3 : ∀ q, cw_A (ks ++ [20 + N 6 0]) ad q → (cw_A2 ks ad (ad (20 + N 6 0))) q := fun q ⟨k, hk, e⟩ => by rw [e]; exact hA2 k hk
  have hl := lv_entry ([.ref (ad 0), .int q, .long d]) (n := 6) (Nat.le_of_ble_eq_true rfl)
  rw [lg_entry_eq]
  generalize (lg_sl ([.ref (ad 0), .int q, .long d]) ++ List.replicate (6 - (lg_sl ([.ref (ad 0), .int q, .long d])).length) Slot.unset).toArray = ls at hl ⊢
  have hl : lv_has ls 6 [(0, .ref (ad 0)), (1, .int q), (2, .long d)] := hl
  refine lv_aload_n hx hb dd_D_after_0 rfl (lv_at hl 0 rfl) ?_
  refine lv_iload_n hx hb dd_D_after_1 rfl (lv_at hl 1 rfl) ?_
  refine cw_callq (k := 0) (C := rn_D) (T := ft_D) (NF := 9) (As := [.int q]) (rest := []) ⟨hx, hb, hml, hown, hts⟩ (cc_D_queueAt l D ks ad ca M X F G N O B hC hks hMB q) (bg_cwV 1 hts tw_ml_D_47 tw_im_D_queueAt tw_se_D_queueAt tw_in_D tw_co_D_queueAt rfl rfl th_D_queueAt ⟨Nat.le_of_ble_eq_true rfl, Nat.le_of_ble_eq_true rfl⟩) hK hP (hks.1 0 (by decide)) (cw_C0 ad ca _ _ _ _) rfl rfl hl.1 rfl (Nat.le_of_ble_eq_true rfl) dd_D_after_2 ⟨Nat.zero_le _, Nat.zero_le _⟩ (fun h2 => ?_) (fun k9 h2 => ?_)
  · have hq2 := bd_map_n h2
    refine lv_astoreN hx hb dd_D_after_5 hl (by decide) rfl (fun ls hl => ?_)
    have hl : lv_has ls 6 [(4, .null), (0, .ref (ad 0)), (1, .int q), (2, .long d)] := hl
    refine lv_aloadN hx hb dd_D_after_7 (lv_at hl 0 rfl) ?_
    refine lv_ifnonnullN hx hb dd_D_after_9 ?_
    refine lv_iconst (v := -1) hx hb dd_D_after_12 (by decide) ?_
    have eU : cu_after ks M X F G N d (bd_at q (N 1 0)) = (ks, M, X, F, G) := by simp only [hq2]; simp [cu_after]
    refine W.widen (k := 1) (n := 11) (Nat.zero_le _) (Nat.zero_le _) ?_
    exact W.iret hx hb hr (fun tt htt hWW => ⟨⟨_, (), rfl, (by simp only [hq2]; simp [am_new]), by rw [eU]; exact ⟨by rw [htt]; exact hP, va_K.moved hWW.alike hK⟩⟩, hS.F htt⟩) hS.2.2 dd_D_after_13
  · obtain ⟨a2, hq2, hl2, rfl, rfl⟩ := bd_map_s (by omega) h2
    refine lv_astore hx hb dd_D_after_5 hl (by decide) rfl (fun ls hl => ?_)
    have hl : lv_has ls 6 [(4, .ref (ad (8 + a2))), (0, .ref (ad 0)), (1, .int (nI a2)), (2, .long d)] := hl
    refine lv_aload hx hb dd_D_after_7 (lv_at hl 0 rfl) ?_
    refine lv_ifnonnull (tgt := 14) hx hb dd_D_after_9 rfl ?_
    refine lv_aload_n hx hb dd_D_after_14 rfl (lv_at hl 1 rfl) ?_
    refine cw_calli (k := 0) (C := rn_D) (T := ft_D) (NF := 9) (As := []) (rest := []) (v := bd_b (decide (160 ≤ N 6 0))) ⟨hx, hb, hml, hown, hts⟩ (cc_D_isFull l D ks ad ca M X F G N O B hC hks hMB) (bg_cwV 0 hts tw_ml_D_70 tw_im_D_isFull tw_se_D_isFull tw_in_D tw_co_D_isFull rfl rfl th_D_isFull ⟨Nat.le_of_ble_eq_true rfl, Nat.le_of_ble_eq_true rfl⟩) hK hP (hks.1 0 (by decide)) (cw_C0 ad ca _ _ _ _) rfl rfl hl.1 rfl (Nat.le_of_ble_eq_true rfl) dd_D_after_15 ⟨Nat.zero_le _, Nat.zero_le _⟩ ?_
    refine bq_zeq (tgt := 24) hx hb dd_D_after_18 rfl (fun h18 => ?_) (fun h18 => ?_)
    · have h18f : ¬ N 6 0 = 160 := by have h9 := of_decide_eq_false h18; omega
      refine lv_aload_n hx hb dd_D_after_24 rfl (lv_at hl 1 rfl) ?_
      refine lv_aload hx hb dd_D_after_25 (lv_at hl 0 rfl) ?_
      refine lv_iconst (v := bd_b false) hx hb dd_D_after_27 (by decide) ?_
      have h6 : N 6 0 < 160 := by omega
      refine cw_callacc (k := 0) (C := rn_D) (T := ft_D) (NF := 9) (As := [.ref (ad (8 + a2)), .int (bd_b false)]) (rest := []) (nk := 20 + N 6 0) ⟨hx, hb, hml, hown, hts⟩ (cc_D_accept l D ks ad ca hJ M X F G N O B hC hks hMB hJ2 hnk h6 a2 false hl2) (bg_cwV 2 hts tw_ml_D_73 tw_im_D_accept tw_se_D_accept tw_in_D tw_co_D_accept rfl rfl th_D_accept ⟨Nat.le_of_ble_eq_true rfl, Nat.le_of_ble_eq_true rfl⟩) hsz hK hP hS (hks.1 0 (by decide)) (cw_C0 ad ca _ _ _ _) rfl rfl hl.1 rfl (Nat.le_of_ble_eq_true rfl) dd_D_after_28 ⟨Nat.le_of_ble_eq_true rfl, Nat.le_of_ble_eq_true rfl⟩ (fun H locs hP hS => ?_)
      refine W.widen (k := 1) (n := 11) (Nat.le_refl _) (Nat.le_refl _) ?_
      refine lv_astore hx hb dd_D_after_31 hl (by decide) rfl (fun ls hl => ?_)
      have hl : lv_has ls 6 [(5, .ref (ad (20 + N 6 0))), (4, .ref (ad (8 + a2))), (0, .ref (ad 0)), (1, .int (nI a2)), (2, .long d)] := hl
      refine lv_lload_n hx hb dd_D_after_33 rfl (lv_at hl 4 rfl) ?_
      refine lv_lconst (v := 0) hx hb dd_D_after_34 rfl ?_
      refine W.lcmp hx hb dd_D_after_35 ?_
      refine bq_lgt (tgt := 48) hx hb dd_D_after_36 rfl (fun h36 => ?_) (fun h36 => ?_)
      · refine lv_aload hx hb dd_D_after_48 (lv_at hl 0 rfl) ?_
        refine lv_iconst (v := nI 1) hx hb dd_D_after_50 (by decide) ?_
        refine cw_put1 (k := 20 + N 6 0) (C := rn_B) (T := ft_B) (NF := 11) (v := .int (nI 1)) (ty := fy_B 3) (M' := (sp_u (cs_AM M (N 6 0)) (20 + N 6 0) 3 1)) (X' := (cs_nX X (N 6 0) (false && decide (3 ≤ a2)))) (F' := (cs_AF F (N 6 0) a2)) (G' := (cs_nG G (N 6 0))) hx hb hts tw_fs_B fy_B fo_B fn_B hown hK hP (cw_DA hJ2 hA2 ca (cs_AM M (N 6 0)) (cs_nX X (N 6 0) (false && decide (3 ≤ a2))) (cs_AF F (N 6 0) a2) (cs_nG G (N 6 0))) hS (List.mem_append_right _ (List.mem_singleton.mpr rfl)) (cw_CB _ ad ca _ _ _ _) rfl 3 (by decide) (hts _ tw_fl_D_91) rfl rfl (fo_B 3 (by decide)) rfl rfl (Nat.le_of_ble_eq_true rfl) (fun _ hq => sp_u_f _ _ _ hq) (fun _ _ => rfl) (fun _ _ => rfl) (fun _ _ => rfl) (by rw [sp_u_k (cs_AM M (N 6 0)) (20 + N 6 0) 3 1]; exact (cw_CB _ ad ca _ _ _ _)) dd_D_after_51 (fun H locs hP hS => ?_)
        refine lv_aload hx hb dd_D_after_54 (lv_at hl 0 rfl) ?_
        refine lv_aload_n hx hb dd_D_after_56 rfl (lv_at hl 2 rfl) ?_
        refine lv_lload_n hx hb dd_D_after_57 rfl (lv_at hl 4 rfl) ?_
        refine cw_calll (k := 0) (C := rn_D) (T := ft_D) (NF := 9) (As := [.long d]) (rest := [.ref (ad (20 + N 6 0))]) (v := cs_dl (cs_nG G (N 6 0)) d) ⟨hx, hb, hml, hown, hts⟩ (cc_D_deadlineIn l D (ks ++ [20 + N 6 0]) ad ca (sp_u (cs_AM M (N 6 0)) (20 + N 6 0) 3 1) (cs_nX X (N 6 0) (false && decide (3 ≤ a2))) (cs_AF F (N 6 0) a2) (cs_nG G (N 6 0)) (sp_AN N a2) (sp_AO N O) (sp_AB N B a2 false) (cl_S_M (cl_S_A hC h6 hl2 false) (by decide) (Or.inl (by omega))) (cl_k_A hks a2) (cl_B_u (cl_B_A hMB h6) (by omega)) d) (bg_cwV 1 hts tw_ml_D_94 tw_im_D_deadlineIn tw_se_D_deadlineIn tw_in_D tw_co_D_deadlineIn rfl rfl th_D_deadlineIn ⟨Nat.le_of_ble_eq_true rfl, Nat.le_of_ble_eq_true rfl⟩) hK hP (List.mem_append_left _ (hks.1 0 (by decide))) (cw_C0 ad ca _ _ _ _) rfl rfl hl.1 rfl (Nat.le_of_ble_eq_true rfl) dd_D_after_58 ⟨Nat.le_of_ble_eq_true rfl, Nat.le_of_ble_eq_true rfl⟩ ?_
        obtain ⟨dv, hdv⟩ : ∃ dv, dv = cs_dl (cs_nG G (N 6 0)) d := ⟨_, rfl⟩
        rw [← hdv]
        refine cw_put1 (k := 20 + N 6 0) (C := rn_B) (T := ft_B) (NF := 11) (v := .long (dv)) (ty := fy_B 8) (M' := (sp_u (cs_AM M (N 6 0)) (20 + N 6 0) 3 1)) (X' := (cs_nX X (N 6 0) (false && decide (3 ≤ a2)))) (F' := (cs_AF F (N 6 0) a2)) (G' := (sp_u (cs_nG G (N 6 0)) (20 + N 6 0) 8 dv)) hx hb hts tw_fs_B fy_B fo_B fn_B hown hK hP (cw_DA hJ2 hA2 ca (sp_u (cs_AM M (N 6 0)) (20 + N 6 0) 3 1) (cs_nX X (N 6 0) (false && decide (3 ≤ a2))) (cs_AF F (N 6 0) a2) (cs_nG G (N 6 0))) hS (List.mem_append_right _ (List.mem_singleton.mpr rfl)) (cw_CB _ ad ca _ _ _ _) rfl 8 (by decide) (hts _ tw_fl_D_98) rfl rfl (fo_B 8 (by decide)) rfl rfl (Nat.le_of_ble_eq_true rfl) (fun _ _ => rfl) (fun _ _ => rfl) (fun _ _ => rfl) (fun _ hq => sp_u_f _ _ _ hq) (by rw [sp_u_k (cs_nG G (N 6 0)) (20 + N 6 0) 8 dv]; exact (cw_CB _ ad ca _ _ _ _)) dd_D_after_61 (fun H locs hP hS => ?_)
        refine lv_aload hx hb dd_D_after_64 (lv_at hl 0 rfl) ?_
        refine cw_get1 (k := 20 + N 6 0) (C := rn_B) (T := ft_B) (NF := 11) (v := .int (nI ((sp_u (cs_AM M (N 6 0)) (20 + N 6 0) 3 1) (20 + N 6 0) 0))) hx hb hts tw_fs_B hown hK hP (List.mem_append_right _ (List.mem_singleton.mpr rfl)) (cw_CB _ ad ca _ _ _ _) rfl 0 (by decide) (hts _ tw_fl_D_88) rfl rfl dd_D_after_66 ?_
        rw [cl_bn (cl_S_M (cl_S_A hC h6 hl2 false) (by decide) (Or.inl (by omega))) (show N 6 0 < N 6 0 + 1 from Nat.lt_succ_self _)]
        have eU : cu_after ks M X F G N d (bd_at (nI a2) (N 1 0)) = (ks ++ [20 + N 6 0], sp_u (cs_AM M (N 6 0)) (20 + N 6 0) 3 1, cs_nX X (N 6 0) (false && decide (3 ≤ a2)), cs_AF F (N 6 0) a2, sp_u (cs_nG G (N 6 0)) (20 + N 6 0) 8 dv) := by simp only [hq2]; simp [cu_after, h18f, Int64.not_le.mpr h36, hdv]
        exact W.iret hx hb hr (fun tt htt hWW => ⟨⟨_, (), rfl, (by simp only [hq2]; simp [am_new, h18f, Int64.not_le.mpr h36, hdv]), by rw [eU]; exact ⟨by rw [htt]; exact hP, va_K.moved hWW.alike hK⟩⟩, hS.F htt⟩) hS.2.2 dd_D_after_69
      · refine lv_aload_n hx hb dd_D_after_39 rfl (lv_at hl 2 rfl) ?_
        refine lv_aload hx hb dd_D_after_40 (lv_at hl 0 rfl) ?_
        refine cw_callwvA (k := 0) (C := rn_D) (T := ft_D) (NF := 9) (As := [.ref (ad (20 + N 6 0))]) (rest := []) ⟨hx, hb, hml, hown, hts⟩ (cc_D_line l D (ks ++ [20 + N 6 0]) ad ca hJ2 (cs_AM M (N 6 0)) (cs_nX X (N 6 0) (false && decide (3 ≤ a2))) (cs_AF F (N 6 0) a2) (cs_nG G (N 6 0)) (sp_AN N a2) (sp_AO N O) (sp_AB N B a2 false) (cl_S_A hC h6 hl2 false) (cl_k_A hks a2) (N 6 0) (show N 6 0 < N 6 0 + 1 from Nat.lt_succ_self _)) (bg_cwV 1 hts tw_ml_D_84 tw_im_D_line tw_se_D_line tw_in_D tw_co_D_line rfl rfl th_D_line ⟨Nat.le_of_ble_eq_true rfl, Nat.le_of_ble_eq_true rfl⟩) hA3 hK hP hS (List.mem_append_left _ (hks.1 0 (by decide))) (cw_C0 ad ca _ _ _ _) rfl rfl hl.1 rfl (Nat.le_of_ble_eq_true rfl) dd_D_after_42 ⟨Nat.le_of_ble_eq_true rfl, Nat.le_of_ble_eq_true rfl⟩ (fun H locs hP hS => ?_)
        refine lv_goto (tgt := 64) hx hb dd_D_after_45 rfl ?_
        refine lv_aload hx hb dd_D_after_64 (lv_at hl 0 rfl) ?_
        refine cw_get1 (k := 20 + N 6 0) (C := rn_B) (T := ft_B) (NF := 11) (v := .int (nI ((cs_lM (cs_AM M (N 6 0)) (sp_AN N a2) (N 6 0)) (20 + N 6 0) 0))) hx hb hts tw_fs_B hown hK hP (List.mem_append_right _ (List.mem_singleton.mpr rfl)) (cw_CB _ ad ca _ _ _ _) rfl 0 (by decide) (hts _ tw_fl_D_88) rfl rfl dd_D_after_66 ?_
        rw [cl_bn (cl_S_l (cl_S_A hC h6 hl2 false) (show N 6 0 < N 6 0 + 1 from Nat.lt_succ_self _)) (show N 6 0 < N 6 0 + 1 from Nat.lt_succ_self _)]
        have eU : cu_after ks M X F G N d (bd_at (nI a2) (N 1 0)) = (ks ++ [20 + N 6 0], cs_lM (cs_AM M (N 6 0)) (sp_AN N a2) (N 6 0), cs_nX X (N 6 0) (false && decide (3 ≤ a2)), cs_aF (cs_AF F (N 6 0) a2) (sp_AN N a2 7 (N 6 0)) (N 6 0), cs_nG G (N 6 0)) := by simp only [hq2]; simp [cu_after, h18f, h36]
        exact W.iret hx hb hr (fun tt htt hWW => ⟨⟨_, (), rfl, (by simp only [hq2]; simp [am_new, h18f, h36]), by rw [eU]; exact ⟨by rw [htt]; exact hP, va_K.moved hWW.alike hK⟩⟩, hS.F htt⟩) hS.2.2 dd_D_after_69
    · have h18f : N 6 0 = 160 := by have h9 := of_decide_eq_true h18; omega
      refine lv_bipush (v := -4) hx hb dd_D_after_21 (by decide) ?_
      have eU : cu_after ks M X F G N d (bd_at (nI a2) (N 1 0)) = (ks, M, X, F, G) := by simp only [hq2]; simp [cu_after, h18f]
      refine W.widen (k := 1) (n := 11) (Nat.zero_le _) (Nat.zero_le _) ?_
      exact W.iret hx hb hr (fun tt htt hWW => ⟨⟨_, (), rfl, (by simp only [hq2]; simp [am_new, h18f]), by rw [eU]; exact ⟨by rw [htt]; exact hP, va_K.moved hWW.alike hK⟩⟩, hS.F htt⟩) hS.2.2 dd_D_after_23

set_option maxHeartbeats 4000000 in
set_option maxRecDepth 100000 in
theorem cc_D_call (l : Launch) (D : va_G) (ks : List Nat) (ad : Nat → Nat) (ca : Nat → ClassId) (hJ : cw_J ks ad) (M : sp_N) (X : sp_B) (F : sp_O) (G : sp_Z) (N : sp_N) (O : sp_O) (B : sp_B) (hC : cl_S M X F N O B) (hks : cl_k ks N) (hMB : cl_B M) (hJ2 : cw_J (ks ++ [20 + N 6 0]) ad) (hnk : 20 + N 6 0 ∉ ks) (ci q : Int32) (bar : Bool) : Met l my_D_call (Cond.code my_D_call cd_D_call 7 (some .int) :: bg_tbl) ({ frames := 3, cells := 1, slots := 11, locals := 58 }) (va_Pc [.ref (ad 0), .int ci, .int q, .int (bd_b bar)] (fun U => U.heap.size = ad (20 + N 6 0) ∧ cw_U D ks ad ca M X F G U)) (va_Qi (fun r (_ : Unit) => r = cm_call M N O B (bd_at ci (N 6 0)) (bd_at q (N 1 0)) bar) (fun _ uu => cw_Ut D ad ca (cu_call ks M X F G N bar (ck_call M N O B (bd_at ci (N 6 0)) (bd_at q (N 1 0)) bar)) uu) (cw_A2 ks ad (ad (20 + N 6 0)))) 1 11 (cw_A2 ks ad (ad (20 + N 6 0))) := by
  refine Met.ofW (cc := cd_D_call) (maxL := 7) (ret := (some .int)) (by decide) rfl ?_
  intro p e s m args below meth c s₁ BB hml hv
  obtain ⟨rfl, hsz, hP, hK⟩ := hv
  have hx := BB.exec
  have hb := BB.bytes
  have hr := BB.returns
  have hts : ∀ w ∈ bg_tbl, w.before ([.ref (ad 0), .int ci, .int q, .int (bd_b bar)] : List Value).toArray s = true := fun w h => atoms_spec (ws := (Cond.code my_D_call cd_D_call 7 (some .int) :: bg_tbl)) BB.pre w (List.mem_cons_of_mem _ h)
  have hown : s.vm.findClass rn_D = some m.cls := findClass_of_methodNamed BB.named
  have hlocks := BB.notSynchronized
  have h12 := cl_12 hC
  have h160 := cl_160 hC
  have h3q := cl_3 hC
  have hM4 := cl_M4 hC
  have hM5 := cl_M5 hC
  have hS : va_S (cw_A2 ks ad (ad (20 + N 6 0))) s.heap s.heap [] := va_S.rf
  have hA2 : ∀ k, k ∈ (ks ++ [20 + N 6 0]) → (cw_A2 ks ad (ad (20 + N 6 0))) (ad k) := fun k hk => by
    rcases List.mem_append.mp hk with h | h
    · exact Or.inl ⟨k, h, rfl⟩
    · rw [List.mem_singleton.mp h]; exact Or.inr (Nat.le_refl _)
  have hA3 : ∀ q, cw_A (ks ++ [20 + N 6 0]) ad q → (cw_A2 ks ad (ad (20 + N 6 0))) q := fun q ⟨k, hk, e⟩ => by rw [e]; exact hA2 k hk
  have hl := lv_entry ([.ref (ad 0), .int ci, .int q, .int (bd_b bar)]) (n := 7) (Nat.le_of_ble_eq_true rfl)
  rw [lg_entry_eq]
  generalize (lg_sl ([.ref (ad 0), .int ci, .int q, .int (bd_b bar)]) ++ List.replicate (7 - (lg_sl ([.ref (ad 0), .int ci, .int q, .int (bd_b bar)])).length) Slot.unset).toArray = ls at hl ⊢
  have hl : lv_has ls 7 [(0, .ref (ad 0)), (1, .int ci), (2, .int q), (3, .int (bd_b bar))] := hl
  refine lv_aload_n hx hb dd_D_call_0 rfl (lv_at hl 0 rfl) ?_
  refine lv_iload_n hx hb dd_D_call_1 rfl (lv_at hl 1 rfl) ?_
  refine cw_callq (k := 0) (C := rn_D) (T := ft_D) (NF := 9) (As := [.int ci]) (rest := []) ⟨hx, hb, hml, hown, hts⟩ (cc_D_blockAt l D ks ad ca M X F G N O B hC hks hMB ci) (bg_cwV 1 hts tw_ml_D_102 tw_im_D_blockAt tw_se_D_blockAt tw_in_D tw_co_D_blockAt rfl rfl th_D_blockAt ⟨Nat.le_of_ble_eq_true rfl, Nat.le_of_ble_eq_true rfl⟩) hK hP (hks.1 0 (by decide)) (cw_C0 ad ca _ _ _ _) rfl rfl hl.1 rfl (Nat.le_of_ble_eq_true rfl) dd_D_call_2 ⟨Nat.zero_le _, Nat.zero_le _⟩ (fun h2 => ?_) (fun k9 h2 => ?_)
  · have hq2 := bd_map_n h2
    refine lv_astoreN hx hb dd_D_call_5 hl (by decide) rfl (fun ls hl => ?_)
    have hl : lv_has ls 7 [(4, .null), (0, .ref (ad 0)), (1, .int ci), (2, .int q), (3, .int (bd_b bar))] := hl
    refine lv_aloadN hx hb dd_D_call_7 (lv_at hl 0 rfl) ?_
    refine lv_ifnullN (tgt := 21) hx hb dd_D_call_9 rfl ?_
    refine lv_bipush (v := -3) hx hb dd_D_call_21 (by decide) ?_
    have eU : cu_call ks M X F G N bar (ck_call M N O B (bd_at ci (N 6 0)) (bd_at q (N 1 0)) bar) = (ks, M, X, F, G) := by simp only [hq2]; simp [ck_call, cu_call]
    refine W.widen (k := 1) (n := 11) (Nat.zero_le _) (Nat.zero_le _) ?_
    exact W.iret hx hb hr (fun tt htt hWW => ⟨⟨_, (), rfl, (by simp only [hq2]; simp [cm_call]), by rw [eU]; exact ⟨by rw [htt]; exact hP, va_K.moved hWW.alike hK⟩⟩, hS.F htt⟩) hS.2.2 dd_D_call_23
  · obtain ⟨a2, hq2, hl2, rfl, rfl⟩ := bd_map_s (by omega) h2
    refine lv_astore hx hb dd_D_call_5 hl (by decide) rfl (fun ls hl => ?_)
    have hl : lv_has ls 7 [(4, .ref (ad (20 + a2))), (0, .ref (ad 0)), (1, .int (nI a2)), (2, .int q), (3, .int (bd_b bar))] := hl
    refine lv_aload hx hb dd_D_call_7 (lv_at hl 0 rfl) ?_
    refine lv_ifnull hx hb dd_D_call_9 ?_
    refine lv_aload hx hb dd_D_call_12 (lv_at hl 0 rfl) ?_
    refine cw_get1 (k := 20 + a2) (C := rn_B) (T := ft_B) (NF := 11) (v := .int (nI (M (20 + a2) 3))) hx hb hts tw_fs_B hown hK hP (hks.2.2 _ hl2) (cw_CB _ ad ca _ _ _ _) rfl 3 (by decide) (hts _ tw_fl_D_91) rfl rfl dd_D_call_14 ?_
    refine lv_iconst (v := nI 3) hx hb dd_D_call_17 (by decide) ?_
    refine bq_eq (tgt := 24) hx hb (hMB _ _) (by decide) dd_D_call_18 rfl (fun h18 => ?_) (fun h18 => ?_)
    · refine lv_aload_n hx hb dd_D_call_24 rfl (lv_at hl 1 rfl) ?_
      refine lv_iload_n hx hb dd_D_call_25 rfl (lv_at hl 3 rfl) ?_
      refine cw_callq (k := 0) (C := rn_D) (T := ft_D) (NF := 9) (As := [.int q]) (rest := []) ⟨hx, hb, hml, hown, hts⟩ (cc_D_queueAt l D ks ad ca M X F G N O B hC hks hMB q) (bg_cwV 1 hts tw_ml_D_47 tw_im_D_queueAt tw_se_D_queueAt tw_in_D tw_co_D_queueAt rfl rfl th_D_queueAt ⟨Nat.le_of_ble_eq_true rfl, Nat.le_of_ble_eq_true rfl⟩) hK hP (hks.1 0 (by decide)) (cw_C0 ad ca _ _ _ _) rfl rfl hl.1 rfl (Nat.le_of_ble_eq_true rfl) dd_D_call_26 ⟨Nat.zero_le _, Nat.zero_le _⟩ (fun h26 => ?_) (fun k9 h26 => ?_)
      · have hq26 := bd_map_n h26
        refine lv_astoreN hx hb dd_D_call_29 hl (by decide) rfl (fun ls hl => ?_)
        have hl : lv_has ls 7 [(5, .null), (4, .ref (ad (20 + a2))), (0, .ref (ad 0)), (1, .int (nI a2)), (2, .int q), (3, .int (bd_b bar))] := hl
        refine lv_aloadN hx hb dd_D_call_31 (lv_at hl 0 rfl) ?_
        refine lv_ifnonnullN hx hb dd_D_call_33 ?_
        refine lv_iconst (v := -1) hx hb dd_D_call_36 (by decide) ?_
        have eU : cu_call ks M X F G N bar (ck_call M N O B (bd_at (nI a2) (N 6 0)) (bd_at q (N 1 0)) bar) = (ks, M, X, F, G) := by simp only [hq2, hq26]; simp [ck_call, cu_call, h18]
        refine W.widen (k := 1) (n := 11) (Nat.zero_le _) (Nat.zero_le _) ?_
        exact W.iret hx hb hr (fun tt htt hWW => ⟨⟨_, (), rfl, (by simp only [hq2, hq26]; simp [cm_call, h18]), by rw [eU]; exact ⟨by rw [htt]; exact hP, va_K.moved hWW.alike hK⟩⟩, hS.F htt⟩) hS.2.2 dd_D_call_37
      · obtain ⟨a26, hq26, hl26, rfl, rfl⟩ := bd_map_s (by omega) h26
        refine lv_astore hx hb dd_D_call_29 hl (by decide) rfl (fun ls hl => ?_)
        have hl : lv_has ls 7 [(5, .ref (ad (8 + a26))), (4, .ref (ad (20 + a2))), (0, .ref (ad 0)), (1, .int (nI a2)), (2, .int (nI a26)), (3, .int (bd_b bar))] := hl
        refine lv_aload hx hb dd_D_call_31 (lv_at hl 0 rfl) ?_
        refine lv_ifnonnull (tgt := 38) hx hb dd_D_call_33 rfl ?_
        refine lv_aload hx hb dd_D_call_38 (lv_at hl 1 rfl) ?_
        refine lv_aload hx hb dd_D_call_40 (lv_at hl 0 rfl) ?_
        refine lv_iload_n hx hb dd_D_call_42 rfl (lv_at hl 5 rfl) ?_
        refine cw_callsi (As := [.ref (ad (20 + a2)), .ref (ad (8 + a26)), .int (bd_b bar)]) (rest := []) (v := bd_b (cs_dk M N O B a2 a26 bar)) ⟨hx, hb, hml, hown, hts⟩ (cc_D_wouldDeadlock l D ks ad ca M X F G N O B hC hks hMB hJ a2 a26 bar hl2 hl26) ⟨callB_of 3 hts (bg_G tw_co_D_wouldDeadlock) rfl rfl rfl (hts _ tw_in_D) (hts _ tw_ml_D_106) th_D_wouldDeadlock.2 ⟨Nat.le_of_ble_eq_true rfl, Nat.le_of_ble_eq_true rfl⟩, hts _ tw_st_D_wouldDeadlock⟩ hK hP rfl hl.1 rfl (Nat.le_of_ble_eq_true rfl) dd_D_call_43 ⟨Nat.zero_le _, Nat.zero_le _⟩ ?_
        refine bq_zeq (tgt := 52) hx hb dd_D_call_46 rfl (fun h46 => ?_) (fun h46 => ?_)
        · refine lv_aload_n hx hb dd_D_call_52 rfl (lv_at hl 2 rfl) ?_
          refine cw_calli (k := 0) (C := rn_D) (T := ft_D) (NF := 9) (As := []) (rest := []) (v := bd_b (decide (160 ≤ N 6 0))) ⟨hx, hb, hml, hown, hts⟩ (cc_D_isFull l D ks ad ca M X F G N O B hC hks hMB) (bg_cwV 0 hts tw_ml_D_70 tw_im_D_isFull tw_se_D_isFull tw_in_D tw_co_D_isFull rfl rfl th_D_isFull ⟨Nat.le_of_ble_eq_true rfl, Nat.le_of_ble_eq_true rfl⟩) hK hP (hks.1 0 (by decide)) (cw_C0 ad ca _ _ _ _) rfl rfl hl.1 rfl (Nat.le_of_ble_eq_true rfl) dd_D_call_53 ⟨Nat.zero_le _, Nat.zero_le _⟩ ?_
          refine bq_zeq (tgt := 62) hx hb dd_D_call_56 rfl (fun h56 => ?_) (fun h56 => ?_)
          · have h56f : ¬ N 6 0 = 160 := by have h9 := of_decide_eq_false h56; omega
            refine lv_aload_n hx hb dd_D_call_62 rfl (lv_at hl 2 rfl) ?_
            refine lv_aload hx hb dd_D_call_63 (lv_at hl 0 rfl) ?_
            refine lv_iload_n hx hb dd_D_call_65 rfl (lv_at hl 5 rfl) ?_
            have h6 : N 6 0 < 160 := by omega
            refine cw_callacc (k := 0) (C := rn_D) (T := ft_D) (NF := 9) (As := [.ref (ad (8 + a26)), .int (bd_b bar)]) (rest := []) (nk := 20 + N 6 0) ⟨hx, hb, hml, hown, hts⟩ (cc_D_accept l D ks ad ca hJ M X F G N O B hC hks hMB hJ2 hnk h6 a26 bar hl26) (bg_cwV 2 hts tw_ml_D_73 tw_im_D_accept tw_se_D_accept tw_in_D tw_co_D_accept rfl rfl th_D_accept ⟨Nat.le_of_ble_eq_true rfl, Nat.le_of_ble_eq_true rfl⟩) hsz hK hP hS (hks.1 0 (by decide)) (cw_C0 ad ca _ _ _ _) rfl rfl hl.1 rfl (Nat.le_of_ble_eq_true rfl) dd_D_call_66 ⟨Nat.le_of_ble_eq_true rfl, Nat.le_of_ble_eq_true rfl⟩ (fun H locs hP hS => ?_)
            refine W.widen (k := 1) (n := 11) (Nat.le_refl _) (Nat.le_refl _) ?_
            refine lv_astore hx hb dd_D_call_69 hl (by decide) rfl (fun ls hl => ?_)
            have hl : lv_has ls 7 [(6, .ref (ad (20 + N 6 0))), (5, .ref (ad (8 + a26))), (4, .ref (ad (20 + a2))), (0, .ref (ad 0)), (1, .int (nI a2)), (2, .int (nI a26)), (3, .int (bd_b bar))] := hl
            refine lv_aload hx hb dd_D_call_71 (lv_at hl 0 rfl) ?_
            refine lv_aload hx hb dd_D_call_73 (lv_at hl 2 rfl) ?_
            refine cw_put1 (k := 20 + N 6 0) (C := rn_B) (T := ft_B) (NF := 11) (v := .ref (ad (20 + a2))) (ty := fy_B 5) (M' := (cs_AM M (N 6 0))) (X' := (cs_nX X (N 6 0) (bar && decide (3 ≤ a26)))) (F' := (sp_u (cs_AF F (N 6 0) a26) (20 + N 6 0) 5 (some (20 + a2)))) (G' := (cs_nG G (N 6 0))) hx hb hts tw_fs_B fy_B fo_B fn_B hown hK hP (cw_DA hJ2 hA2 ca (cs_AM M (N 6 0)) (cs_nX X (N 6 0) (bar && decide (3 ≤ a26))) (cs_AF F (N 6 0) a26) (cs_nG G (N 6 0))) hS (List.mem_append_right _ (List.mem_singleton.mpr rfl)) (cw_CB _ ad ca _ _ _ _) rfl 5 (by decide) (hts _ tw_fl_D_110) rfl rfl (fo_B 5 (by decide)) rfl rfl (Nat.le_of_ble_eq_true rfl) (fun _ _ => rfl) (fun _ _ => rfl) (fun _ hq => sp_u_f _ _ _ hq) (fun _ _ => rfl) (by rw [sp_u_k (cs_AF F (N 6 0) a26) (20 + N 6 0) 5 (some (20 + a2))]; exact (cw_CB _ ad ca _ _ _ _)) dd_D_call_75 (fun H locs hP hS => ?_)
            refine lv_aload hx hb dd_D_call_78 (lv_at hl 2 rfl) ?_
            refine lv_iconst (v := nI 4) hx hb dd_D_call_80 (by decide) ?_
            refine cw_put1 (k := 20 + a2) (C := rn_B) (T := ft_B) (NF := 11) (v := .int (nI 4)) (ty := fy_B 3) (M' := (sp_u (cs_AM M (N 6 0)) (20 + a2) 3 4)) (X' := (cs_nX X (N 6 0) (bar && decide (3 ≤ a26)))) (F' := (sp_u (cs_AF F (N 6 0) a26) (20 + N 6 0) 5 (some (20 + a2)))) (G' := (cs_nG G (N 6 0))) hx hb hts tw_fs_B fy_B fo_B fn_B hown hK hP (cw_DA hJ2 hA2 ca (cs_AM M (N 6 0)) (cs_nX X (N 6 0) (bar && decide (3 ≤ a26))) (sp_u (cs_AF F (N 6 0) a26) (20 + N 6 0) 5 (some (20 + a2))) (cs_nG G (N 6 0))) hS (List.mem_append_left _ (hks.2.2 _ hl2)) (cw_CB _ ad ca _ _ _ _) rfl 3 (by decide) (hts _ tw_fl_D_91) rfl rfl (fo_B 3 (by decide)) rfl rfl (Nat.le_of_ble_eq_true rfl) (fun _ hq => sp_u_f _ _ _ hq) (fun _ _ => rfl) (fun _ _ => rfl) (fun _ _ => rfl) (by rw [sp_u_k (cs_AM M (N 6 0)) (20 + a2) 3 4]; exact (cw_CB _ ad ca _ _ _ _)) dd_D_call_81 (fun H locs hP hS => ?_)
            refine lv_aload_n hx hb dd_D_call_84 rfl (lv_at hl 3 rfl) ?_
            refine lv_aload hx hb dd_D_call_85 (lv_at hl 0 rfl) ?_
            refine cw_callwvA (k := 0) (C := rn_D) (T := ft_D) (NF := 9) (As := [.ref (ad (20 + N 6 0))]) (rest := []) ⟨hx, hb, hml, hown, hts⟩ (cc_D_line l D (ks ++ [20 + N 6 0]) ad ca hJ2 (sp_u (cs_AM M (N 6 0)) (20 + a2) 3 4) (cs_nX X (N 6 0) (bar && decide (3 ≤ a26))) (sp_u (cs_AF F (N 6 0) a26) (20 + N 6 0) 5 (some (20 + a2))) (cs_nG G (N 6 0)) (sp_AN N a26) (sp_u (sp_AO N O) 9 (N 6 0) (some a2)) (sp_AB N B a26 bar) (cl_S_M (cl_S_k (cl_S_A hC h6 hl26 bar) (show N 6 0 < N 6 0 + 1 from Nat.lt_succ_self _) hl2) (by decide) (Or.inl (by omega))) (cl_k_A hks a26) (N 6 0) (show N 6 0 < N 6 0 + 1 from Nat.lt_succ_self _)) (bg_cwV 1 hts tw_ml_D_84 tw_im_D_line tw_se_D_line tw_in_D tw_co_D_line rfl rfl th_D_line ⟨Nat.le_of_ble_eq_true rfl, Nat.le_of_ble_eq_true rfl⟩) hA3 hK hP hS (List.mem_append_left _ (hks.1 0 (by decide))) (cw_C0 ad ca _ _ _ _) rfl rfl hl.1 rfl (Nat.le_of_ble_eq_true rfl) dd_D_call_87 ⟨Nat.le_of_ble_eq_true rfl, Nat.le_of_ble_eq_true rfl⟩ (fun H locs hP hS => ?_)
            refine lv_aload hx hb dd_D_call_90 (lv_at hl 0 rfl) ?_
            refine cw_get1 (k := 20 + N 6 0) (C := rn_B) (T := ft_B) (NF := 11) (v := .int (nI ((cs_lM (sp_u (cs_AM M (N 6 0)) (20 + a2) 3 4) (sp_AN N a26) (N 6 0)) (20 + N 6 0) 0))) hx hb hts tw_fs_B hown hK hP (List.mem_append_right _ (List.mem_singleton.mpr rfl)) (cw_CB _ ad ca _ _ _ _) rfl 0 (by decide) (hts _ tw_fl_D_88) rfl rfl dd_D_call_92 ?_
            rw [cl_bn (cl_S_l (cl_S_M (cl_S_k (cl_S_A hC h6 hl26 bar) (show N 6 0 < N 6 0 + 1 from Nat.lt_succ_self _) hl2) (by decide) (Or.inl (by omega))) (show N 6 0 < N 6 0 + 1 from Nat.lt_succ_self _)) (show N 6 0 < N 6 0 + 1 from Nat.lt_succ_self _)]
            have eU : cu_call ks M X F G N bar (ck_call M N O B (bd_at (nI a2) (N 6 0)) (bd_at (nI a26) (N 1 0)) bar) = (ks ++ [20 + N 6 0], cs_lM (sp_u (cs_AM M (N 6 0)) (20 + a2) 3 4) (sp_AN N a26) (N 6 0), cs_nX X (N 6 0) (bar && decide (3 ≤ a26)), cs_aF (sp_u (cs_AF F (N 6 0) a26) (20 + N 6 0) 5 (some (20 + a2))) (sp_AN N a26 7 (N 6 0)) (N 6 0), cs_nG G (N 6 0)) := by simp only [hq2, hq26]; simp [ck_call, cu_call, h18, h46, h56f]
            exact W.iret hx hb hr (fun tt htt hWW => ⟨⟨_, (), rfl, (by simp only [hq2, hq26]; simp [cm_call, h18, h46, h56f]), by rw [eU]; exact ⟨by rw [htt]; exact hP, va_K.moved hWW.alike hK⟩⟩, hS.F htt⟩) hS.2.2 dd_D_call_95
          · have h56f : N 6 0 = 160 := by have h9 := of_decide_eq_true h56; omega
            refine lv_bipush (v := -4) hx hb dd_D_call_59 (by decide) ?_
            have eU : cu_call ks M X F G N bar (ck_call M N O B (bd_at (nI a2) (N 6 0)) (bd_at (nI a26) (N 1 0)) bar) = (ks, M, X, F, G) := by simp only [hq2, hq26]; simp [ck_call, cu_call, h18, h46, h56f]
            refine W.widen (k := 1) (n := 11) (Nat.zero_le _) (Nat.zero_le _) ?_
            exact W.iret hx hb hr (fun tt htt hWW => ⟨⟨_, (), rfl, (by simp only [hq2, hq26]; simp [cm_call, h18, h46, h56f]), by rw [eU]; exact ⟨by rw [htt]; exact hP, va_K.moved hWW.alike hK⟩⟩, hS.F htt⟩) hS.2.2 dd_D_call_61
        · refine lv_bipush (v := -7) hx hb dd_D_call_49 (by decide) ?_
          have eU : cu_call ks M X F G N bar (ck_call M N O B (bd_at (nI a2) (N 6 0)) (bd_at (nI a26) (N 1 0)) bar) = (ks, M, X, F, G) := by simp only [hq2, hq26]; simp [ck_call, cu_call, h18, h46]
          refine W.widen (k := 1) (n := 11) (Nat.zero_le _) (Nat.zero_le _) ?_
          exact W.iret hx hb hr (fun tt htt hWW => ⟨⟨_, (), rfl, (by simp only [hq2, hq26]; simp [cm_call, h18, h46]), by rw [eU]; exact ⟨by rw [htt]; exact hP, va_K.moved hWW.alike hK⟩⟩, hS.F htt⟩) hS.2.2 dd_D_call_51
    · refine lv_bipush (v := -3) hx hb dd_D_call_21 (by decide) ?_
      have eU : cu_call ks M X F G N bar (ck_call M N O B (bd_at (nI a2) (N 6 0)) (bd_at q (N 1 0)) bar) = (ks, M, X, F, G) := by simp only [hq2]; simp [ck_call, cu_call, h18]
      refine W.widen (k := 1) (n := 11) (Nat.zero_le _) (Nat.zero_le _) ?_
      exact W.iret hx hb hr (fun tt htt hWW => ⟨⟨_, (), rfl, (by simp only [hq2]; simp [cm_call, h18]), by rw [eU]; exact ⟨by rw [htt]; exact hP, va_K.moved hWW.alike hK⟩⟩, hS.F htt⟩) hS.2.2 dd_D_call_23

set_option maxHeartbeats 4000000 in
set_option maxRecDepth 100000 in
theorem cc_D_whenDone (l : Launch) (D : va_G) (ks : List Nat) (ad : Nat → Nat) (ca : Nat → ClassId) (hJ : cw_J ks ad) (M : sp_N) (X : sp_B) (F : sp_O) (G : sp_Z) (N : sp_N) (O : sp_O) (B : sp_B) (hC : cl_S M X F N O B) (hks : cl_k ks N) (hMB : cl_B M) (hJ2 : cw_J (ks ++ [20 + N 6 0]) ad) (hnk : 20 + N 6 0 ∉ ks) (gi q : Int32) : Met l my_D_whenDone (Cond.code my_D_whenDone cd_D_whenDone 6 (some .int) :: bg_tbl) ({ frames := 3, cells := 1, slots := 11, locals := 58 }) (va_Pc [.ref (ad 0), .int gi, .int q] (fun U => U.heap.size = ad (20 + N 6 0) ∧ cw_U D ks ad ca M X F G U)) (va_Qi (fun r (_ : Unit) => r = am_when N (bd_at gi 4) (bd_at q (N 1 0))) (fun _ uu => cw_Ut D ad ca (cu_when ks M X F G N (bd_at gi 4) (bd_at q (N 1 0))) uu) (cw_A2 ks ad (ad (20 + N 6 0)))) 1 11 (cw_A2 ks ad (ad (20 + N 6 0))) := by
  refine Met.ofW (cc := cd_D_whenDone) (maxL := 6) (ret := (some .int)) (by decide) rfl ?_
  intro p e s m args below meth c s₁ BB hml hv
  obtain ⟨rfl, hsz, hP, hK⟩ := hv
  have hx := BB.exec
  have hb := BB.bytes
  have hr := BB.returns
  have hts : ∀ w ∈ bg_tbl, w.before ([.ref (ad 0), .int gi, .int q] : List Value).toArray s = true := fun w h => atoms_spec (ws := (Cond.code my_D_whenDone cd_D_whenDone 6 (some .int) :: bg_tbl)) BB.pre w (List.mem_cons_of_mem _ h)
  have hown : s.vm.findClass rn_D = some m.cls := findClass_of_methodNamed BB.named
  have hlocks := BB.notSynchronized
  have h12 := cl_12 hC
  have h160 := cl_160 hC
  have h3q := cl_3 hC
  have hM4 := cl_M4 hC
  have hM5 := cl_M5 hC
  have hS : va_S (cw_A2 ks ad (ad (20 + N 6 0))) s.heap s.heap [] := va_S.rf
  have hA2 : ∀ k, k ∈ (ks ++ [20 + N 6 0]) → (cw_A2 ks ad (ad (20 + N 6 0))) (ad k) := fun k hk => by
    rcases List.mem_append.mp hk with h | h
    · exact Or.inl ⟨k, h, rfl⟩
    · rw [List.mem_singleton.mp h]; exact Or.inr (Nat.le_refl _)
  have hA3 : ∀ q, cw_A (ks ++ [20 + N 6 0]) ad q → (cw_A2 ks ad (ad (20 + N 6 0))) q := fun q ⟨k, hk, e⟩ => by rw [e]; exact hA2 k hk
  have hl := lv_entry ([.ref (ad 0), .int gi, .int q]) (n := 6) (Nat.le_of_ble_eq_true rfl)
  rw [lg_entry_eq]
  generalize (lg_sl ([.ref (ad 0), .int gi, .int q]) ++ List.replicate (6 - (lg_sl ([.ref (ad 0), .int gi, .int q])).length) Slot.unset).toArray = ls at hl ⊢
  have hl : lv_has ls 6 [(0, .ref (ad 0)), (1, .int gi), (2, .int q)] := hl
  refine lv_aload_n hx hb dd_D_whenDone_0 rfl (lv_at hl 0 rfl) ?_
  refine lv_iload_n hx hb dd_D_whenDone_1 rfl (lv_at hl 1 rfl) ?_
  refine cw_callq (k := 0) (C := rn_D) (T := ft_D) (NF := 9) (As := [.int gi]) (rest := []) ⟨hx, hb, hml, hown, hts⟩ (cc_D_groupAt l D ks ad ca M X F G N O B hC hks hMB gi) (bg_cwV 1 hts tw_ml_D_66 tw_im_D_groupAt tw_se_D_groupAt tw_in_D tw_co_D_groupAt rfl rfl th_D_groupAt ⟨Nat.le_of_ble_eq_true rfl, Nat.le_of_ble_eq_true rfl⟩) hK hP (hks.1 0 (by decide)) (cw_C0 ad ca _ _ _ _) rfl rfl hl.1 rfl (Nat.le_of_ble_eq_true rfl) dd_D_whenDone_2 ⟨Nat.zero_le _, Nat.zero_le _⟩ (fun h2 => ?_) (fun k9 h2 => ?_)
  · have hq2 := bd_map_n h2
    refine lv_astore_nN hx hb dd_D_whenDone_5 rfl hl (by decide) rfl (fun ls hl => ?_)
    have hl : lv_has ls 6 [(3, .null), (0, .ref (ad 0)), (1, .int gi), (2, .int q)] := hl
    refine lv_aload_nN hx hb dd_D_whenDone_6 rfl (lv_at hl 0 rfl) ?_
    refine lv_ifnonnullN hx hb dd_D_whenDone_7 ?_
    refine lv_bipush (v := -2) hx hb dd_D_whenDone_10 (by decide) ?_
    have eU : cu_when ks M X F G N (bd_at gi 4) (bd_at q (N 1 0)) = (ks, M, X, F, G) := by simp only [hq2, cu_when]
    refine W.widen (k := 1) (n := 11) (Nat.zero_le _) (Nat.zero_le _) ?_
    exact W.iret hx hb hr (fun tt htt hWW => ⟨⟨_, (), rfl, (by simp only [hq2]; simp [am_when, am_new]), by rw [eU]; exact ⟨by rw [htt]; exact hP, va_K.moved hWW.alike hK⟩⟩, hS.F htt⟩) hS.2.2 dd_D_whenDone_12
  · obtain ⟨a2, hq2, hl2, rfl, rfl⟩ := bd_map_s (by omega) h2
    refine lv_astore_n hx hb dd_D_whenDone_5 rfl hl (by decide) rfl (fun ls hl => ?_)
    have hl : lv_has ls 6 [(3, .ref (ad (4 + a2))), (0, .ref (ad 0)), (1, .int (nI a2)), (2, .int q)] := hl
    refine lv_aload_n hx hb dd_D_whenDone_6 rfl (lv_at hl 0 rfl) ?_
    refine lv_ifnonnull (tgt := 13) hx hb dd_D_whenDone_7 rfl ?_
    refine lv_aload_n hx hb dd_D_whenDone_13 rfl (lv_at hl 1 rfl) ?_
    refine lv_iload_n hx hb dd_D_whenDone_14 rfl (lv_at hl 3 rfl) ?_
    refine cw_callq (k := 0) (C := rn_D) (T := ft_D) (NF := 9) (As := [.int q]) (rest := []) ⟨hx, hb, hml, hown, hts⟩ (cc_D_queueAt l D ks ad ca M X F G N O B hC hks hMB q) (bg_cwV 1 hts tw_ml_D_47 tw_im_D_queueAt tw_se_D_queueAt tw_in_D tw_co_D_queueAt rfl rfl th_D_queueAt ⟨Nat.le_of_ble_eq_true rfl, Nat.le_of_ble_eq_true rfl⟩) hK hP (hks.1 0 (by decide)) (cw_C0 ad ca _ _ _ _) rfl rfl hl.1 rfl (Nat.le_of_ble_eq_true rfl) dd_D_whenDone_15 ⟨Nat.zero_le _, Nat.zero_le _⟩ (fun h15 => ?_) (fun k9 h15 => ?_)
    · have hq15 := bd_map_n h15
      refine lv_astoreN hx hb dd_D_whenDone_18 hl (by decide) rfl (fun ls hl => ?_)
      have hl : lv_has ls 6 [(4, .null), (3, .ref (ad (4 + a2))), (0, .ref (ad 0)), (1, .int (nI a2)), (2, .int q)] := hl
      refine lv_aloadN hx hb dd_D_whenDone_20 (lv_at hl 0 rfl) ?_
      refine lv_ifnonnullN hx hb dd_D_whenDone_22 ?_
      refine lv_iconst (v := -1) hx hb dd_D_whenDone_25 (by decide) ?_
      have eU : cu_when ks M X F G N (bd_at (nI a2) 4) (bd_at q (N 1 0)) = (ks, M, X, F, G) := by simp only [hq2, hq15, cu_when]
      refine W.widen (k := 1) (n := 11) (Nat.zero_le _) (Nat.zero_le _) ?_
      exact W.iret hx hb hr (fun tt htt hWW => ⟨⟨_, (), rfl, (by simp only [hq2, hq15]; simp [am_when, am_new]), by rw [eU]; exact ⟨by rw [htt]; exact hP, va_K.moved hWW.alike hK⟩⟩, hS.F htt⟩) hS.2.2 dd_D_whenDone_26
    · obtain ⟨a15, hq15, hl15, rfl, rfl⟩ := bd_map_s (by omega) h15
      refine lv_astore hx hb dd_D_whenDone_18 hl (by decide) rfl (fun ls hl => ?_)
      have hl : lv_has ls 6 [(4, .ref (ad (8 + a15))), (3, .ref (ad (4 + a2))), (0, .ref (ad 0)), (1, .int (nI a2)), (2, .int (nI a15))] := hl
      refine lv_aload hx hb dd_D_whenDone_20 (lv_at hl 0 rfl) ?_
      refine lv_ifnonnull (tgt := 27) hx hb dd_D_whenDone_22 rfl ?_
      refine lv_aload_n hx hb dd_D_whenDone_27 rfl (lv_at hl 2 rfl) ?_
      refine cw_calli (k := 0) (C := rn_D) (T := ft_D) (NF := 9) (As := []) (rest := []) (v := bd_b (decide (160 ≤ N 6 0))) ⟨hx, hb, hml, hown, hts⟩ (cc_D_isFull l D ks ad ca M X F G N O B hC hks hMB) (bg_cwV 0 hts tw_ml_D_70 tw_im_D_isFull tw_se_D_isFull tw_in_D tw_co_D_isFull rfl rfl th_D_isFull ⟨Nat.le_of_ble_eq_true rfl, Nat.le_of_ble_eq_true rfl⟩) hK hP (hks.1 0 (by decide)) (cw_C0 ad ca _ _ _ _) rfl rfl hl.1 rfl (Nat.le_of_ble_eq_true rfl) dd_D_whenDone_28 ⟨Nat.zero_le _, Nat.zero_le _⟩ ?_
      refine bq_zeq (tgt := 37) hx hb dd_D_whenDone_31 rfl (fun h31 => ?_) (fun h31 => ?_)
      · have h31f : ¬ N 6 0 = 160 := by have h9 := of_decide_eq_false h31; omega
        refine lv_aload_n hx hb dd_D_whenDone_37 rfl (lv_at hl 2 rfl) ?_
        refine lv_aload hx hb dd_D_whenDone_38 (lv_at hl 0 rfl) ?_
        refine lv_iconst (v := bd_b false) hx hb dd_D_whenDone_40 (by decide) ?_
        have h6 : N 6 0 < 160 := by omega
        refine cw_callacc (k := 0) (C := rn_D) (T := ft_D) (NF := 9) (As := [.ref (ad (8 + a15)), .int (bd_b false)]) (rest := []) (nk := 20 + N 6 0) ⟨hx, hb, hml, hown, hts⟩ (cc_D_accept l D ks ad ca hJ M X F G N O B hC hks hMB hJ2 hnk h6 a15 false hl15) (bg_cwV 2 hts tw_ml_D_73 tw_im_D_accept tw_se_D_accept tw_in_D tw_co_D_accept rfl rfl th_D_accept ⟨Nat.le_of_ble_eq_true rfl, Nat.le_of_ble_eq_true rfl⟩) hsz hK hP hS (hks.1 0 (by decide)) (cw_C0 ad ca _ _ _ _) rfl rfl hl.1 rfl (Nat.le_of_ble_eq_true rfl) dd_D_whenDone_41 ⟨Nat.le_of_ble_eq_true rfl, Nat.le_of_ble_eq_true rfl⟩ (fun H locs hP hS => ?_)
        refine W.widen (k := 1) (n := 11) (Nat.le_refl _) (Nat.le_refl _) ?_
        refine lv_astore hx hb dd_D_whenDone_44 hl (by decide) rfl (fun ls hl => ?_)
        have hl : lv_has ls 6 [(5, .ref (ad (20 + N 6 0))), (4, .ref (ad (8 + a15))), (3, .ref (ad (4 + a2))), (0, .ref (ad 0)), (1, .int (nI a2)), (2, .int (nI a15))] := hl
        refine lv_aload_n hx hb dd_D_whenDone_46 rfl (lv_at hl 2 rfl) ?_
        refine cw_calli (k := 4 + a2) (C := rn_G) (T := ft_G) (NF := 2) (As := []) (rest := []) (v := bd_b (decide (cs_AM M (N 6 0) (4 + a2) 0 = 0) && decide (cs_AM M (N 6 0) (4 + a2) 1 = 0))) ⟨hx, hb, hml, hown, hts⟩ (cc_G_isEmpty l D (ks ++ [20 + N 6 0]) ad ca (cs_AM M (N 6 0)) (cs_nX X (N 6 0) (false && decide (3 ≤ a15))) (cs_AF F (N 6 0) a15) (cs_nG G (N 6 0)) (sp_AN N a15) (sp_AO N O) (sp_AB N B a15 false) (cl_S_A hC h6 hl15 false) (cl_k_A hks a15) (cl_B_A hMB h6) a2 hl2) (bg_cwV 0 hts tw_ml_D_114 tw_im_G_isEmpty tw_se_G_isEmpty tw_in_G tw_co_G_isEmpty rfl rfl th_G_isEmpty ⟨Nat.le_of_ble_eq_true rfl, Nat.le_of_ble_eq_true rfl⟩) hK hP (List.mem_append_left _ (hks.1 _ (by omega))) (cw_CG hl2 ad ca _ _ _ _) rfl rfl hl.1 rfl (Nat.le_of_ble_eq_true rfl) dd_D_whenDone_47 ⟨Nat.le_of_ble_eq_true rfl, Nat.le_of_ble_eq_true rfl⟩ ?_
        refine bq_zeq (tgt := 62) hx hb dd_D_whenDone_50 rfl (fun h50 => ?_) (fun h50 => ?_)
        · have h50d : ¬ (cs_AM M (N 6 0) (4 + a2) 0 = 0 ∧ cs_AM M (N 6 0) (4 + a2) 1 = 0) := by simpa using h50
          refine lv_aload hx hb dd_D_whenDone_62 (lv_at hl 0 rfl) ?_
          refine lv_iconst (v := nI 0) hx hb dd_D_whenDone_64 (by decide) ?_
          refine cw_put1 (k := 20 + N 6 0) (C := rn_B) (T := ft_B) (NF := 11) (v := .int (nI 0)) (ty := fy_B 3) (M' := (sp_u (cs_AM M (N 6 0)) (20 + N 6 0) 3 0)) (X' := (cs_nX X (N 6 0) (false && decide (3 ≤ a15)))) (F' := (cs_AF F (N 6 0) a15)) (G' := (cs_nG G (N 6 0))) hx hb hts tw_fs_B fy_B fo_B fn_B hown hK hP (cw_DA hJ2 hA2 ca (cs_AM M (N 6 0)) (cs_nX X (N 6 0) (false && decide (3 ≤ a15))) (cs_AF F (N 6 0) a15) (cs_nG G (N 6 0))) hS (List.mem_append_right _ (List.mem_singleton.mpr rfl)) (cw_CB _ ad ca _ _ _ _) rfl 3 (by decide) (hts _ tw_fl_D_91) rfl rfl (fo_B 3 (by decide)) rfl rfl (Nat.le_of_ble_eq_true rfl) (fun _ hq => sp_u_f _ _ _ hq) (fun _ _ => rfl) (fun _ _ => rfl) (fun _ _ => rfl) (by rw [sp_u_k (cs_AM M (N 6 0)) (20 + N 6 0) 3 0]; exact (cw_CB _ ad ca _ _ _ _)) dd_D_whenDone_65 (fun H locs hP hS => ?_)
          refine lv_aload hx hb dd_D_whenDone_68 (lv_at hl 0 rfl) ?_
          refine lv_aload_n hx hb dd_D_whenDone_70 rfl (lv_at hl 2 rfl) ?_
          refine cw_put1 (k := 20 + N 6 0) (C := rn_B) (T := ft_B) (NF := 11) (v := .ref (ad (4 + a2))) (ty := fy_B 7) (M' := (sp_u (cs_AM M (N 6 0)) (20 + N 6 0) 3 0)) (X' := (cs_nX X (N 6 0) (false && decide (3 ≤ a15)))) (F' := (sp_u (cs_AF F (N 6 0) a15) (20 + N 6 0) 7 (some (4 + a2)))) (G' := (cs_nG G (N 6 0))) hx hb hts tw_fs_B fy_B fo_B fn_B hown hK hP (cw_DA hJ2 hA2 ca (sp_u (cs_AM M (N 6 0)) (20 + N 6 0) 3 0) (cs_nX X (N 6 0) (false && decide (3 ≤ a15))) (cs_AF F (N 6 0) a15) (cs_nG G (N 6 0))) hS (List.mem_append_right _ (List.mem_singleton.mpr rfl)) (cw_CB _ ad ca _ _ _ _) rfl 7 (by decide) (hts _ tw_fl_D_117) rfl rfl (fo_B 7 (by decide)) rfl rfl (Nat.le_of_ble_eq_true rfl) (fun _ _ => rfl) (fun _ _ => rfl) (fun _ hq => sp_u_f _ _ _ hq) (fun _ _ => rfl) (by rw [sp_u_k (cs_AF F (N 6 0) a15) (20 + N 6 0) 7 (some (4 + a2))]; exact (cw_CB _ ad ca _ _ _ _)) dd_D_whenDone_71 (fun H locs hP hS => ?_)
          refine lv_aload hx hb dd_D_whenDone_74 (lv_at hl 0 rfl) ?_
          refine cw_get1 (k := 20 + N 6 0) (C := rn_B) (T := ft_B) (NF := 11) (v := .int (nI ((sp_u (cs_AM M (N 6 0)) (20 + N 6 0) 3 0) (20 + N 6 0) 0))) hx hb hts tw_fs_B hown hK hP (List.mem_append_right _ (List.mem_singleton.mpr rfl)) (cw_CB _ ad ca _ _ _ _) rfl 0 (by decide) (hts _ tw_fl_D_88) rfl rfl dd_D_whenDone_76 ?_
          rw [cl_bn (cl_S_M (cl_S_A hC h6 hl15 false) (by decide) (Or.inl (by omega))) (show N 6 0 < N 6 0 + 1 from Nat.lt_succ_self _)]
          have eU : cu_when ks M X F G N (bd_at (nI a2) 4) (bd_at (nI a15) (N 1 0)) = (ks ++ [20 + N 6 0], sp_u (cs_AM M (N 6 0)) (20 + N 6 0) 3 0, cs_nX X (N 6 0) (false && decide (3 ≤ a15)), sp_u (cs_AF F (N 6 0) a15) (20 + N 6 0) 7 (some (4 + a2)), cs_nG G (N 6 0)) := by simp only [hq2, hq15, cu_when]; rw [if_neg h31f, if_neg h50d]
          exact W.iret hx hb hr (fun tt htt hWW => ⟨⟨_, (), rfl, (by simp only [hq2, hq15, am_when, am_new]; rw [if_neg h31f]), by rw [eU]; exact ⟨by rw [htt]; exact hP, va_K.moved hWW.alike hK⟩⟩, hS.F htt⟩) hS.2.2 dd_D_whenDone_79
        · have h50d : cs_AM M (N 6 0) (4 + a2) 0 = 0 ∧ cs_AM M (N 6 0) (4 + a2) 1 = 0 := by simpa using h50
          refine lv_aload_n hx hb dd_D_whenDone_53 rfl (lv_at hl 3 rfl) ?_
          refine lv_aload hx hb dd_D_whenDone_54 (lv_at hl 0 rfl) ?_
          refine cw_callwvA (k := 0) (C := rn_D) (T := ft_D) (NF := 9) (As := [.ref (ad (20 + N 6 0))]) (rest := []) ⟨hx, hb, hml, hown, hts⟩ (cc_D_line l D (ks ++ [20 + N 6 0]) ad ca hJ2 (cs_AM M (N 6 0)) (cs_nX X (N 6 0) (false && decide (3 ≤ a15))) (cs_AF F (N 6 0) a15) (cs_nG G (N 6 0)) (sp_AN N a15) (sp_AO N O) (sp_AB N B a15 false) (cl_S_A hC h6 hl15 false) (cl_k_A hks a15) (N 6 0) (show N 6 0 < N 6 0 + 1 from Nat.lt_succ_self _)) (bg_cwV 1 hts tw_ml_D_84 tw_im_D_line tw_se_D_line tw_in_D tw_co_D_line rfl rfl th_D_line ⟨Nat.le_of_ble_eq_true rfl, Nat.le_of_ble_eq_true rfl⟩) hA3 hK hP hS (List.mem_append_left _ (hks.1 0 (by decide))) (cw_C0 ad ca _ _ _ _) rfl rfl hl.1 rfl (Nat.le_of_ble_eq_true rfl) dd_D_whenDone_56 ⟨Nat.le_of_ble_eq_true rfl, Nat.le_of_ble_eq_true rfl⟩ (fun H locs hP hS => ?_)
          refine lv_goto (tgt := 74) hx hb dd_D_whenDone_59 rfl ?_
          refine lv_aload hx hb dd_D_whenDone_74 (lv_at hl 0 rfl) ?_
          refine cw_get1 (k := 20 + N 6 0) (C := rn_B) (T := ft_B) (NF := 11) (v := .int (nI ((cs_lM (cs_AM M (N 6 0)) (sp_AN N a15) (N 6 0)) (20 + N 6 0) 0))) hx hb hts tw_fs_B hown hK hP (List.mem_append_right _ (List.mem_singleton.mpr rfl)) (cw_CB _ ad ca _ _ _ _) rfl 0 (by decide) (hts _ tw_fl_D_88) rfl rfl dd_D_whenDone_76 ?_
          rw [cl_bn (cl_S_l (cl_S_A hC h6 hl15 false) (show N 6 0 < N 6 0 + 1 from Nat.lt_succ_self _)) (show N 6 0 < N 6 0 + 1 from Nat.lt_succ_self _)]
          have eU : cu_when ks M X F G N (bd_at (nI a2) 4) (bd_at (nI a15) (N 1 0)) = (ks ++ [20 + N 6 0], cs_lM (cs_AM M (N 6 0)) (sp_AN N a15) (N 6 0), cs_nX X (N 6 0) (false && decide (3 ≤ a15)), cs_aF (cs_AF F (N 6 0) a15) (sp_AN N a15 7 (N 6 0)) (N 6 0), cs_nG G (N 6 0)) := by simp only [hq2, hq15, cu_when]; rw [if_neg h31f, if_pos h50d]
          exact W.iret hx hb hr (fun tt htt hWW => ⟨⟨_, (), rfl, (by simp only [hq2, hq15, am_when, am_new]; rw [if_neg h31f]), by rw [eU]; exact ⟨by rw [htt]; exact hP, va_K.moved hWW.alike hK⟩⟩, hS.F htt⟩) hS.2.2 dd_D_whenDone_79
      · have h31f : N 6 0 = 160 := by have h9 := of_decide_eq_true h31; omega
        refine lv_bipush (v := -4) hx hb dd_D_whenDone_34 (by decide) ?_
        have eU : cu_when ks M X F G N (bd_at (nI a2) 4) (bd_at (nI a15) (N 1 0)) = (ks, M, X, F, G) := by simp only [hq2, hq15, cu_when]; rw [if_pos h31f]
        refine W.widen (k := 1) (n := 11) (Nat.zero_le _) (Nat.zero_le _) ?_
        exact W.iret hx hb hr (fun tt htt hWW => ⟨⟨_, (), rfl, (by simp only [hq2, hq15]; simp [am_when, am_new, h31f]), by rw [eU]; exact ⟨by rw [htt]; exact hP, va_K.moved hWW.alike hK⟩⟩, hS.F htt⟩) hS.2.2 dd_D_whenDone_36

