/-! Part 36: the class: queue. By wip/gen/gen_cls9.py. -/
def cs_qM (M : sp_N) (n w : Nat) : sp_N := va_up M (8 + n) (fun f => if f = 0 then n else if f = 1 then w else 0)
def cs_qX (X : sp_B) (n : Nat) : sp_B := va_up X (8 + n) (fun _ => false)
def cs_qF (F : sp_O) (n a : Nat) : sp_O := va_up F (8 + n) (fun f => if f = 2 then some (8 + a) else none)
def cs_qG (G : sp_Z) (n : Nat) : sp_Z := va_up G (8 + n) (fun _ => 0)
theorem cs_qM_ne (M : sp_N) (n w : Nat) {k : Nat} (h : k ≠ 8 + n) : cs_qM M n w k = M k := va_up_ne _ _ h
theorem cs_qF_ne (F : sp_O) (n a : Nat) {k : Nat} (h : k ≠ 8 + n) : cs_qF F n a k = F k := va_up_ne _ _ h
theorem cs_q_cell (ad : Nat → Nat) (ca : Nat → ClassId) {n : Nat} (hn : n < 12) (w a : Nat) : cw_C ad ca (8 + n) (fun f => if f = 0 then n else if f = 1 then w else 0) (fun _ => false) (fun f => if f = 2 then some (8 + a) else none) (fun _ => 0) = .inr (2, [.int (nI n), .int (nI w), .ref (ad (8 + a)), .int (nI 0), .null, .null, .int (nI 0), .int (nI 0), .int (nI 0), .int (bd_b false)]) := cw_CQ hn ad ca _ _ _ _
def cu_queue (ks : List Nat) (M : sp_N) (X : sp_B) (F : sp_O) (G : sp_Z) (N : sp_N) (q w : Option Nat) : cw_T5 := match q, w with
  | some a, some b => if N 1 0 = 12 then (ks, M, X, F, G) else (ks ++ [8 + N 1 0], sp_u (cs_qM M (N 1 0) b) 0 4 (N 1 0 + 1), cs_qX X (N 1 0), sp_u (cs_qF F (N 1 0) a) 1 (N 1 0) (some (8 + N 1 0)), cs_qG G (N 1 0))
  | none, _ => (ks, M, X, F, G)
  | some _, none => (ks, M, X, F, G)
set_option maxHeartbeats 4000000 in
set_option maxRecDepth 100000 in
theorem cc_D_queue (l : Launch) (D : va_G) (ks : List Nat) (ad : Nat → Nat) (ca : Nat → ClassId) (hJ : cw_J ks ad) (M : sp_N) (X : sp_B) (F : sp_O) (G : sp_Z) (N : sp_N) (O : sp_O) (B : sp_B) (hC : cl_S M X F N O B) (hks : cl_k ks N) (hMB : cl_B M) (hJ2 : cw_J (ks ++ [8 + N 1 0]) ad) (hnk : 8 + N 1 0 ∉ ks) (q wi : Int32) : Met l my_D_queue (Cond.code my_D_queue cd_D_queue 5 (some .int) :: bg_tbl) ({ frames := 2, cells := 1, slots := 10, locals := 35 }) (va_Pc [.ref (ad 0), .int q, .int wi] (fun U => U.heap.size = ad (8 + N 1 0) ∧ cw_U D ks ad ca M X F G U)) (va_Qi (fun r (_ : Unit) => r = am_queue N (bd_at q (N 1 0)) (bd_wd wi)) (fun _ uu => cw_Ut D ad ca (cu_queue ks M X F G N (bd_at q (N 1 0)) (bd_wd wi)) uu) (cw_A2 ks ad (ad (8 + N 1 0)))) 1 10 (cw_A2 ks ad (ad (8 + N 1 0))) := by
  refine Met.ofW (cc := cd_D_queue) (maxL := 5) (ret := (some .int)) (by decide) rfl ?_
  intro p e s m args below meth c s₁ BB hml hv
  obtain ⟨rfl, hsz, hP, hK⟩ := hv
  have hx := BB.exec
  have hb := BB.bytes
  have hr := BB.returns
  have hts : ∀ w ∈ bg_tbl, w.before ([.ref (ad 0), .int q, .int wi] : List Value).toArray s = true := fun w h => atoms_spec (ws := (Cond.code my_D_queue cd_D_queue 5 (some .int) :: bg_tbl)) BB.pre w (List.mem_cons_of_mem _ h)
  have hown : s.vm.findClass rn_D = some m.cls := findClass_of_methodNamed BB.named
  have hlocks := BB.notSynchronized
  have h12 := cl_12 hC
  have h160 := cl_160 hC
  have h3q := cl_3 hC
  have hM4 := cl_M4 hC
  have hM5 := cl_M5 hC
  have hS : va_S (cw_A2 ks ad (ad (8 + N 1 0))) s.heap s.heap [] := va_S.rf
  have hA2 : ∀ k, k ∈ (ks ++ [8 + N 1 0]) → (cw_A2 ks ad (ad (8 + N 1 0))) (ad k) := fun k hk => by
    rcases List.mem_append.mp hk with h | h
    · exact Or.inl ⟨k, h, rfl⟩
    · rw [List.mem_singleton.mp h]; exact Or.inr (Nat.le_refl _)
  have hA3 : ∀ q, cw_A (ks ++ [8 + N 1 0]) ad q → (cw_A2 ks ad (ad (8 + N 1 0))) q := fun q ⟨k, hk, e⟩ => by rw [e]; exact hA2 k hk
  have hl := lv_entry ([.ref (ad 0), .int q, .int wi]) (n := 5) (Nat.le_of_ble_eq_true rfl)
  rw [lg_entry_eq]
  generalize (lg_sl ([.ref (ad 0), .int q, .int wi]) ++ List.replicate (5 - (lg_sl ([.ref (ad 0), .int q, .int wi])).length) Slot.unset).toArray = ls at hl ⊢
  have hl : lv_has ls 5 [(0, .ref (ad 0)), (1, .int q), (2, .int wi)] := hl
  refine lv_aload_n hx hb dd_D_queue_0 rfl (lv_at hl 0 rfl) ?_
  refine lv_iload_n hx hb dd_D_queue_1 rfl (lv_at hl 1 rfl) ?_
  refine cw_callq (k := 0) (C := rn_D) (T := ft_D) (NF := 9) (As := [.int q]) (rest := []) ⟨hx, hb, hml, hown, hts⟩ (cc_D_queueAt l D ks ad ca M X F G N O B hC hks hMB q) (bg_cwV 1 hts tw_ml_D_47 tw_im_D_queueAt tw_se_D_queueAt tw_in_D tw_co_D_queueAt rfl rfl th_D_queueAt ⟨Nat.le_of_ble_eq_true rfl, Nat.le_of_ble_eq_true rfl⟩) hK hP (hks.1 0 (by decide)) (cw_C0 ad ca _ _ _ _) rfl rfl hl.1 rfl (Nat.le_of_ble_eq_true rfl) dd_D_queue_2 ⟨Nat.zero_le _, Nat.zero_le _⟩ (fun h2 => ?_) (fun k9 h2 => ?_)
  · have hq2 := bd_map_n h2
    refine lv_astore_nN hx hb dd_D_queue_5 rfl hl (by decide) rfl (fun ls hl => ?_)
    have hl : lv_has ls 5 [(3, .null), (0, .ref (ad 0)), (1, .int q), (2, .int wi)] := hl
    refine lv_aload_nN hx hb dd_D_queue_6 rfl (lv_at hl 0 rfl) ?_
    refine lv_ifnonnullN hx hb dd_D_queue_7 ?_
    refine lv_iconst (v := -1) hx hb dd_D_queue_10 (by decide) ?_
    have eU : cu_queue ks M X F G N (bd_at q (N 1 0)) (bd_wd wi) = (ks, M, X, F, G) := by simp only [hq2]; simp [cu_queue]
    refine W.widen (k := 1) (n := 10) (Nat.zero_le _) (Nat.zero_le _) ?_
    exact W.iret hx hb hr (fun tt htt hWW => ⟨⟨_, (), rfl, (by simp only [hq2]; simp [am_queue]), by rw [eU]; exact ⟨by rw [htt]; exact hP, va_K.moved hWW.alike hK⟩⟩, hS.F htt⟩) hS.2.2 dd_D_queue_11
  · obtain ⟨a2, hq2, hl2, rfl, rfl⟩ := bd_map_s (by omega) h2
    refine lv_astore_n hx hb dd_D_queue_5 rfl hl (by decide) rfl (fun ls hl => ?_)
    have hl : lv_has ls 5 [(3, .ref (ad (8 + a2))), (0, .ref (ad 0)), (1, .int (nI a2)), (2, .int wi)] := hl
    refine lv_aload_n hx hb dd_D_queue_6 rfl (lv_at hl 0 rfl) ?_
    refine lv_ifnonnull (tgt := 12) hx hb dd_D_queue_7 rfl ?_
    refine lv_iload_n hx hb dd_D_queue_12 rfl (lv_at hl 3 rfl) ?_
    refine lv_iconst (v := nI 1) hx hb dd_D_queue_13 (by decide) ?_
    refine lv_icmp_lt (tgt := 23) hx hb dd_D_queue_14 rfl (fun h14 => ?_) (fun h14 => ?_)
    · refine lv_bipush (v := -9) hx hb dd_D_queue_23 (by decide) ?_
      have eU : cu_queue ks M X F G N (bd_at (nI a2) (N 1 0)) (bd_wd wi) = (ks, M, X, F, G) := by simp only [hq2, bd_wd_1 h14]; simp [cu_queue]
      refine W.widen (k := 1) (n := 10) (Nat.zero_le _) (Nat.zero_le _) ?_
      exact W.iret hx hb hr (fun tt htt hWW => ⟨⟨_, (), rfl, (by simp only [hq2, bd_wd_1 h14]; simp [am_queue]), by rw [eU]; exact ⟨by rw [htt]; exact hP, va_K.moved hWW.alike hK⟩⟩, hS.F htt⟩) hS.2.2 dd_D_queue_25
    · refine lv_iload_n hx hb dd_D_queue_17 rfl (lv_at hl 3 rfl) ?_
      refine lv_bipush (v := nI 8) hx hb dd_D_queue_18 (by decide) ?_
      refine lv_icmp_le (tgt := 26) hx hb dd_D_queue_20 rfl (fun h20 => ?_) (fun h20 => ?_)
      · obtain ⟨b, hb1, hb8, rfl, hw9⟩ := bd_wd_3 h14 h20
        refine lv_aload_n hx hb dd_D_queue_26 rfl (lv_at hl 1 rfl) ?_
        refine cw_get1 (k := 0) (C := rn_D) (T := ft_D) (NF := 9) (v := .int (nI (M 0 4))) hx hb hts tw_fs_D hown hK hP (hks.1 0 (by decide)) (cw_C0 ad ca _ _ _ _) rfl 4 (by decide) (hts _ tw_fl_D_43) rfl rfl dd_D_queue_27 ?_
        rw [hM4]
        refine lv_bipush (v := nI 12) hx hb dd_D_queue_30 (by decide) ?_
        refine bq_lt (tgt := 38) hx hb (by omega) (by decide) dd_D_queue_32 rfl (fun h32 => ?_) (fun h32 => ?_)
        · have h32f : ¬ N 1 0 = 12 := by omega
          refine lv_aload_n hx hb dd_D_queue_38 rfl (lv_at hl 1 rfl) ?_
          refine cw_get1 (k := 0) (C := rn_D) (T := ft_D) (NF := 9) (v := .int (nI (M 0 4))) hx hb hts tw_fs_D hown hK hP (hks.1 0 (by decide)) (cw_C0 ad ca _ _ _ _) rfl 4 (by decide) (hts _ tw_fl_D_43) rfl rfl dd_D_queue_39 ?_
          rw [hM4]
          refine lv_istore hx hb dd_D_queue_42 hl (by decide) rfl (fun ls hl => ?_)
          have hl : lv_has ls 5 [(4, .int (nI (N 1 0))), (3, .ref (ad (8 + a2))), (0, .ref (ad 0)), (1, .int (nI a2)), (2, .int (nI b))] := hl
          refine lv_aload_n hx hb dd_D_queue_44 rfl (lv_at hl 2 rfl) ?_
          refine cw_getk (k := 0) (C := rn_D) (T := ft_D) (NF := 9) hx hb hts tw_fs_D hown hK hP (hks.1 0 (by decide)) (cw_C0 ad ca _ _ _ _) rfl 1 (by decide) (hts _ tw_fl_D_24) rfl rfl (cl_F1 hC) dd_D_queue_45 ?_
          refine lv_iload hx hb dd_D_queue_48 (lv_at hl 0 rfl) ?_
          have hnq : N 1 0 < 12 := by omega
          refine cw_new (ci := 2) (fs := [.int (nI 0), .int (nI 0), .null, .int (nI 0), .null, .null, .int (nI 0), .int (nI 0), .int (nI 0), .int (bd_b false)]) hx hb hts tw_fs_Q fy_Q fo_Q hown (hts _ tw_cl_D_22) (hts _ tw_is_Q) (hts _ tw_in_Q) hK rfl (fun j hj => by rcases (show j = 0 ∨ j = 1 ∨ j = 2 ∨ j = 3 ∨ j = 4 ∨ j = 5 ∨ j = 6 ∨ j = 7 ∨ j = 8 ∨ j = 9 by omega) with rfl | rfl | rfl | rfl | rfl | rfl | rfl | rfl | rfl | rfl <;> rfl) hS (Nat.le_of_ble_eq_true rfl) (Nat.le_of_ble_eq_true rfl) dd_D_queue_50 (fun H hN ho hz hS => ?_)
          have hP : va_P D vw_cl (cw_W ks ad ca M X F G) H := hP.kept (fun k q hk => ho q.1 (hP k q hk).lt)
          rw [hsz] at hN ho hz
          rw [hsz]
          refine W.widen (k := 1) (n := 10) (Nat.le_refl _) (Nat.le_refl _) ?_
          refine lv_dup hx hb dd_D_queue_53 rfl ?_
          refine lv_iload hx hb dd_D_queue_54 (lv_at hl 0 rfl) ?_
          refine lv_aload_n hx hb dd_D_queue_56 rfl (lv_at hl 1 rfl) ?_
          refine lv_iload_n hx hb dd_D_queue_57 rfl (lv_at hl 4 rfl) ?_
          refine cw_callI (As := [.int (nI (N 1 0)), .ref (ad (8 + a2)), .int (nI b)]) (rest := [.ref (ad (8 + N 1 0)), .int (nI (N 1 0)), .ref (ad 1)]) ⟨hx, hb, hml, hown, hts⟩ (ci_Q_init l D (ad (8 + N 1 0)) (N 1 0) (ad (8 + a2)) b) ⟨callB_of 3 hts (bg_G tw_co_Q_init) rfl rfl rfl (hts _ tw_in_Q) (hts _ tw_ml_D_40) th_Q_init.2 ⟨Nat.le_of_ble_eq_true rfl, Nat.le_of_ble_eq_true rfl⟩, rfl, hts _ tw_im_Q_init⟩ hK hN hS (Or.inr (Nat.le_refl _)) rfl hl.1 rfl (Nat.le_of_ble_eq_true rfl) dd_D_queue_58 ⟨Nat.le_of_ble_eq_true rfl, Nat.le_of_ble_eq_true rfl⟩ (fun H1 locs hN hk9 hS => ?_)
          have hP : va_P D vw_cl (cw_W ks ad ca M X F G) H1 := hP.kept (fun k q hq => hk9 q.1 (hP k q hq).lt (fun e9 => by
            obtain ⟨a, a1, rfl⟩ := cw_key hq
            have hak := List.mem_of_getElem? a1
            have h9 := cw_inj hJ2 (List.mem_append_left _ hak) (List.mem_append_right _ (List.mem_singleton.mpr rfl)) e9
            exact hnk (h9 ▸ hak)))
          have hP : va_P D vw_cl (cw_W (ks ++ [8 + N 1 0]) ad ca (cs_qM M (N 1 0) b) (cs_qX X (N 1 0)) (cs_qF F (N 1 0) a2) (cs_qG G (N 1 0))) H1 := cw_join hnk hP (by rw [cs_q_cell ad ca hnq]; exact hN)
          refine cw_aast (k := 1) (t0 := 0) (v := 8 + N 1 0) hx hb hK hP (cw_DA hJ2 hA2 ca (cs_qM M (N 1 0) b) (cs_qX X (N 1 0)) (cs_qF F (N 1 0) a2) (cs_qG G (N 1 0))) hS (List.mem_append_left _ (hks.1 1 (by decide))) (by decide) (by decide) rfl (j := N 1 0) (show N 1 0 < cw_n 1 from hnq) (List.mem_append_right _ (List.mem_singleton.mpr rfl)) (cw_CQ hnq ad ca _ _ _ _) rfl dd_D_queue_61 (fun H1 locs hP hS => ?_)
          refine lv_aload_n hx hb dd_D_queue_62 rfl (lv_at hl 2 rfl) ?_
          refine lv_dup hx hb dd_D_queue_63 rfl ?_
          refine cw_get1 (k := 0) (C := rn_D) (T := ft_D) (NF := 9) (v := .int (nI ((cs_qM M (N 1 0) b) 0 4))) hx hb hts tw_fs_D hown hK hP (List.mem_append_left _ (hks.1 0 (by decide))) (cw_C0 ad ca _ _ _ _) rfl 4 (by decide) (hts _ tw_fl_D_43) rfl rfl dd_D_queue_64 ?_
          rw [cs_qM_ne M _ _ (show (0 : Nat) ≠ 8 + N 1 0 by omega), hM4]
          refine lv_iconst (v := nI 1) hx hb dd_D_queue_67 (by decide) ?_
          refine lv_iadd hx hb dd_D_queue_68 ?_
          rw [nI_add]
          refine cw_put1 (k := 0) (C := rn_D) (T := ft_D) (NF := 9) (v := .int (nI ((N 1 0) + 1))) (ty := fy_D 4) (M' := (sp_u (cs_qM M (N 1 0) b) 0 4 ((N 1 0) + 1))) (X' := (cs_qX X (N 1 0))) (F' := (sp_u (cs_qF F (N 1 0) a2) 1 (N 1 0) (some (8 + N 1 0)))) (G' := (cs_qG G (N 1 0))) hx hb hts tw_fs_D fy_D fo_D fn_D hown hK hP (cw_DA hJ2 hA2 ca (cs_qM M (N 1 0) b) (cs_qX X (N 1 0)) (sp_u (cs_qF F (N 1 0) a2) 1 (N 1 0) (some (8 + N 1 0))) (cs_qG G (N 1 0))) hS (List.mem_append_left _ (hks.1 0 (by decide))) (cw_C0 ad ca _ _ _ _) rfl 4 (by decide) (hts _ tw_fl_D_43) rfl rfl (fo_D 4 (by decide)) rfl rfl (Nat.le_of_ble_eq_true rfl) (fun _ hq => sp_u_f _ _ _ hq) (fun _ _ => rfl) (fun _ _ => rfl) (fun _ _ => rfl) (by rw [sp_u_k (cs_qM M (N 1 0) b) 0 4 ((N 1 0) + 1)]; exact (cw_C0 ad ca _ _ _ _)) dd_D_queue_69 (fun H locs hP hS => ?_)
          refine lv_iload hx hb dd_D_queue_72 (lv_at hl 0 rfl) ?_
          have eU : cu_queue ks M X F G N (bd_at (nI a2) (N 1 0)) (bd_wd (nI b)) = (ks ++ [8 + N 1 0], sp_u (cs_qM M (N 1 0) b) 0 4 ((N 1 0) + 1), cs_qX X (N 1 0), sp_u (cs_qF F (N 1 0) a2) 1 (N 1 0) (some (8 + N 1 0)), cs_qG G (N 1 0)) := by simp only [hq2, hw9]; simp [cu_queue, h32f]
          exact W.iret hx hb hr (fun tt htt hWW => ⟨⟨_, (), rfl, (by simp only [hq2, hw9]; simp [am_queue, h32f]), by rw [eU]; exact ⟨by rw [htt]; exact hP, va_K.moved hWW.alike hK⟩⟩, hS.F htt⟩) hS.2.2 dd_D_queue_74
        · have h32f :  N 1 0 = 12 := by omega
          refine lv_bipush (v := -4) hx hb dd_D_queue_35 (by decide) ?_
          have eU : cu_queue ks M X F G N (bd_at (nI a2) (N 1 0)) (bd_wd (nI b)) = (ks, M, X, F, G) := by simp only [hq2, hw9]; simp [cu_queue, h32f]
          refine W.widen (k := 1) (n := 10) (Nat.zero_le _) (Nat.zero_le _) ?_
          exact W.iret hx hb hr (fun tt htt hWW => ⟨⟨_, (), rfl, (by simp only [hq2, hw9]; simp [am_queue, h32f]), by rw [eU]; exact ⟨by rw [htt]; exact hP, va_K.moved hWW.alike hK⟩⟩, hS.F htt⟩) hS.2.2 dd_D_queue_37
      · refine lv_bipush (v := -9) hx hb dd_D_queue_23 (by decide) ?_
        have eU : cu_queue ks M X F G N (bd_at (nI a2) (N 1 0)) (bd_wd wi) = (ks, M, X, F, G) := by simp only [hq2, bd_wd_2 h20]; simp [cu_queue]
        refine W.widen (k := 1) (n := 10) (Nat.zero_le _) (Nat.zero_le _) ?_
        exact W.iret hx hb hr (fun tt htt hWW => ⟨⟨_, (), rfl, (by simp only [hq2, bd_wd_2 h20]; simp [am_queue]), by rw [eU]; exact ⟨by rw [htt]; exact hP, va_K.moved hWW.alike hK⟩⟩, hS.F htt⟩) hS.2.2 dd_D_queue_25

