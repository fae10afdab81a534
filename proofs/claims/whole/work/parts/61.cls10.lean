/-! Part 61: the class: queue where all twelve are made; by script from part 36. -/
set_option maxHeartbeats 4000000 in
set_option maxRecDepth 100000 in
theorem cc_D_queue12 (l : Launch) (D : va_G) (ks : List Nat) (ad : Nat → Nat) (ca : Nat → ClassId) (hJ : cw_J ks ad) (M : sp_N) (X : sp_B) (F : sp_O) (G : sp_Z) (N : sp_N) (O : sp_O) (B : sp_B) (hC : cl_S M X F N O B) (hks : cl_k ks N) (hMB : cl_B M) (h12q : N 1 0 = 12) (q wi : Int32) : Met l my_D_queue (Cond.code my_D_queue cd_D_queue 5 (some .int) :: bg_tbl) ({ frames := 2, cells := 0, slots := 0, locals := 35 }) (va_Pc [.ref (ad 0), .int q, .int wi] (cw_U D ks ad ca M X F G)) (vp_Si (fun r => r = am_queue N (bd_at q (N 1 0)) (bd_wd wi))) 0 0 (fun _ => False) := by
  refine Met.ofW (cc := cd_D_queue) (maxL := 5) (ret := (some .int)) (by decide) rfl ?_
  intro p e s m args below meth c s₁ BB hml hv
  obtain ⟨rfl, hP, hK⟩ := hv
  have hx := BB.exec
  have hb := BB.bytes
  have hr := BB.returns
  have hts : ∀ w ∈ bg_tbl, w.before ([.ref (ad 0), .int q, .int wi] : List Value).toArray s = true := fun w h => atoms_spec (ws := (Cond.code my_D_queue cd_D_queue 5 (some .int) :: bg_tbl)) BB.pre w (List.mem_cons_of_mem _ h)
  have hown : s.vm.findClass rn_D = some m.cls := findClass_of_methodNamed BB.named
  have hlocks := BB.notSynchronized
  have h12 := cl_12 hC
  have h160 := cl_160 hC
  have h3q := cl_3 hC
  have hM4 := cl_M4 hC
  have hM5 := cl_M5 hC
  have hl := lv_entry ([.ref (ad 0), .int q, .int wi]) (n := 5) (Nat.le_of_ble_eq_true rfl)
  rw [lg_entry_eq]
  generalize (lg_sl ([.ref (ad 0), .int q, .int wi]) ++ List.replicate (5 - (lg_sl ([.ref (ad 0), .int q, .int wi])).length) Slot.unset).toArray = ls at hl ⊢
  have hl : lv_has ls 5 [(0, .ref (ad 0)), (1, .int q), (2, .int wi)] := hl
  refine lv_aload_n hx hb dd_D_queue_0 rfl (lv_at hl 0 rfl) ?_
  refine lv_iload_n hx hb dd_D_queue_1 rfl (lv_at hl 1 rfl) ?_
  refine cw_callq (k := 0) (C := rn_D) (T := ft_D) (NF := 9) (As := [.int q]) (rest := []) ⟨hx, hb, hml, hown, hts⟩ (cc_D_queueAt l D ks ad ca M X F G N O B hC hks hMB q) (bg_cwV 1 hts tw_ml_D_47 tw_im_D_queueAt tw_se_D_queueAt tw_in_D tw_co_D_queueAt rfl rfl th_D_queueAt ⟨Nat.le_of_ble_eq_true rfl, Nat.le_of_ble_eq_true rfl⟩) hK hP (hks.1 0 (by decide)) (cw_C0 ad ca _ _ _ _) rfl rfl hl.1 rfl (Nat.le_of_ble_eq_true rfl) dd_D_queue_2 ⟨Nat.zero_le _, Nat.zero_le _⟩ (fun h2 => ?_) (fun k9 h2 => ?_)
  · have hq2 := bd_map_n h2
    refine lv_astore_nN hx hb dd_D_queue_5 rfl hl (by decide) rfl (fun ls hl => ?_)
    have hl : lv_has ls 5 [(3, .null), (0, .ref (ad 0)), (1, .int q), (2, .int wi)] := hl
    refine lv_aload_nN hx hb dd_D_queue_6 rfl (lv_at hl 0 rfl) ?_
    refine lv_ifnonnullN hx hb dd_D_queue_7 ?_
    refine lv_iconst (v := -1) hx hb dd_D_queue_10 (by decide) ?_
    exact W.iret hx hb hr (fun tt htt hWW => ⟨_, rfl, (by simp only [hq2]; simp [am_queue]), htt⟩) (fun _ h => by cases h) dd_D_queue_11
  · obtain ⟨a2, hq2, hl2, rfl, rfl⟩ := bd_map_s (by omega) h2
    refine lv_astore_n hx hb dd_D_queue_5 rfl hl (by decide) rfl (fun ls hl => ?_)
    have hl : lv_has ls 5 [(3, .ref (ad (8 + a2))), (0, .ref (ad 0)), (1, .int (nI a2)), (2, .int wi)] := hl
    refine lv_aload_n hx hb dd_D_queue_6 rfl (lv_at hl 0 rfl) ?_
    refine lv_ifnonnull (tgt := 12) hx hb dd_D_queue_7 rfl ?_
    refine lv_iload_n hx hb dd_D_queue_12 rfl (lv_at hl 3 rfl) ?_
    refine lv_iconst (v := nI 1) hx hb dd_D_queue_13 (by decide) ?_
    refine lv_icmp_lt (tgt := 23) hx hb dd_D_queue_14 rfl (fun h14 => ?_) (fun h14 => ?_)
    · refine lv_bipush (v := -9) hx hb dd_D_queue_23 (by decide) ?_
      exact W.iret hx hb hr (fun tt htt hWW => ⟨_, rfl, (by simp only [hq2, bd_wd_1 h14]; simp [am_queue]), htt⟩) (fun _ h => by cases h) dd_D_queue_25
    · refine lv_iload_n hx hb dd_D_queue_17 rfl (lv_at hl 3 rfl) ?_
      refine lv_bipush (v := nI 8) hx hb dd_D_queue_18 (by decide) ?_
      refine lv_icmp_le (tgt := 26) hx hb dd_D_queue_20 rfl (fun h20 => ?_) (fun h20 => ?_)
      · obtain ⟨b, hb1, hb8, rfl, hw9⟩ := bd_wd_3 h14 h20
        refine lv_aload_n hx hb dd_D_queue_26 rfl (lv_at hl 1 rfl) ?_
        refine cw_get1 (k := 0) (C := rn_D) (T := ft_D) (NF := 9) (v := .int (nI (M 0 4))) hx hb hts tw_fs_D hown hK hP (hks.1 0 (by decide)) (cw_C0 ad ca _ _ _ _) rfl 4 (by decide) (hts _ tw_fl_D_43) rfl rfl dd_D_queue_27 ?_
        rw [hM4]
        refine lv_bipush (v := nI 12) hx hb dd_D_queue_30 (by decide) ?_
        refine bq_lt (tgt := 38) hx hb (by omega) (by decide) dd_D_queue_32 rfl (fun h32 => ?_) (fun h32 => ?_)
        · exact absurd h12q (by omega)
        · have h32f :  N 1 0 = 12 := by omega
          refine lv_bipush (v := -4) hx hb dd_D_queue_35 (by decide) ?_
          exact W.iret hx hb hr (fun tt htt hWW => ⟨_, rfl, (by simp only [hq2, hw9]; simp [am_queue, h32f]), htt⟩) (fun _ h => by cases h) dd_D_queue_37
      · refine lv_bipush (v := -9) hx hb dd_D_queue_23 (by decide) ?_
        exact W.iret hx hb hr (fun tt htt hWW => ⟨_, rfl, (by simp only [hq2, bd_wd_2 h20]; simp [am_queue]), htt⟩) (fun _ h => by cases h) dd_D_queue_25
