/-! Part 32: the class: retarget, enter, leave, cancel, hold, finish. By wip/gen/gen_cls6.py. -/
set_option maxHeartbeats 4000000 in
set_option maxRecDepth 100000 in
theorem cc_D_retarget (l : Launch) (D : va_G) (ks : List Nat) (ad : Nat → Nat) (ca : Nat → ClassId) (hJ : cw_J ks ad) (M : sp_N) (X : sp_B) (F : sp_O) (G : sp_Z) (N : sp_N) (O : sp_O) (B : sp_B) (hC : cl_S M X F N O B) (hks : cl_k ks N) (hMB : cl_B M) (q ti : Int32) : Met l my_D_retarget (Cond.code my_D_retarget cd_D_retarget 5 (some .int) :: bg_tbl) ({ frames := 1, cells := 0, slots := 0, locals := 22 }) (va_Pc [.ref (ad 0), .int q, .int ti] (cw_U D ks ad ca M X F G)) (va_Qi (fun r (_ : Unit) => r = cm_retarget M N (bd_at q (N 1 0)) (bd_at ti (N 1 0))) (fun _ uu => cw_U D ks ad ca M X (cf_retarget M F N (bd_at q (N 1 0)) (bd_at ti (N 1 0))) G uu) (cw_A ks ad)) 0 0 (cw_A ks ad) := by
  refine Met.ofW (cc := cd_D_retarget) (maxL := 5) (ret := (some .int)) (by decide) rfl ?_
  intro p e s m args below meth c s₁ BB hml hv
  obtain ⟨rfl, hP, hK⟩ := hv
  have hx := BB.exec
  have hb := BB.bytes
  have hr := BB.returns
  have hts : ∀ w ∈ bg_tbl, w.before ([.ref (ad 0), .int q, .int ti] : List Value).toArray s = true := fun w h => atoms_spec (ws := (Cond.code my_D_retarget cd_D_retarget 5 (some .int) :: bg_tbl)) BB.pre w (List.mem_cons_of_mem _ h)
  have hown : s.vm.findClass rn_D = some m.cls := findClass_of_methodNamed BB.named
  have hlocks := BB.notSynchronized
  have h12 := cl_12 hC
  have h160 := cl_160 hC
  have h3q := cl_3 hC
  have hM4 := cl_M4 hC
  have hM5 := cl_M5 hC
  have hS : va_S (cw_A ks ad) s.heap s.heap [] := va_S.rf
  have hl := lv_entry ([.ref (ad 0), .int q, .int ti]) (n := 5) (Nat.le_of_ble_eq_true rfl)
  rw [lg_entry_eq]
  generalize (lg_sl ([.ref (ad 0), .int q, .int ti]) ++ List.replicate (5 - (lg_sl ([.ref (ad 0), .int q, .int ti])).length) Slot.unset).toArray = ls at hl ⊢
  have hl : lv_has ls 5 [(0, .ref (ad 0)), (1, .int q), (2, .int ti)] := hl
  refine lv_aload_n hx hb dd_D_retarget_0 rfl (lv_at hl 0 rfl) ?_
  refine lv_iload_n hx hb dd_D_retarget_1 rfl (lv_at hl 1 rfl) ?_
  refine cw_callq (k := 0) (C := rn_D) (T := ft_D) (NF := 9) (As := [.int q]) (rest := []) ⟨hx, hb, hml, hown, hts⟩ (cc_D_queueAt l D ks ad ca M X F G N O B hC hks hMB q) (bg_cwV 1 hts tw_ml_D_47 tw_im_D_queueAt tw_se_D_queueAt tw_in_D tw_co_D_queueAt rfl rfl th_D_queueAt ⟨Nat.le_of_ble_eq_true rfl, Nat.le_of_ble_eq_true rfl⟩) hK hP (hks.1 0 (by decide)) (cw_C0 ad ca _ _ _ _) rfl rfl hl.1 rfl (Nat.le_of_ble_eq_true rfl) dd_D_retarget_2 ⟨Nat.zero_le _, Nat.zero_le _⟩ (fun h2 => ?_) (fun k9 h2 => ?_)
  · have hq2 := bd_map_n h2
    refine lv_astore_nN hx hb dd_D_retarget_5 rfl hl (by decide) rfl (fun ls hl => ?_)
    have hl : lv_has ls 5 [(3, .null), (0, .ref (ad 0)), (1, .int q), (2, .int ti)] := hl
    refine lv_aload_n hx hb dd_D_retarget_6 rfl (lv_at hl 1 rfl) ?_
    refine lv_iload_n hx hb dd_D_retarget_7 rfl (lv_at hl 3 rfl) ?_
    refine cw_callq (k := 0) (C := rn_D) (T := ft_D) (NF := 9) (As := [.int ti]) (rest := []) ⟨hx, hb, hml, hown, hts⟩ (cc_D_queueAt l D ks ad ca M X F G N O B hC hks hMB ti) (bg_cwV 1 hts tw_ml_D_47 tw_im_D_queueAt tw_se_D_queueAt tw_in_D tw_co_D_queueAt rfl rfl th_D_queueAt ⟨Nat.le_of_ble_eq_true rfl, Nat.le_of_ble_eq_true rfl⟩) hK hP (hks.1 0 (by decide)) (cw_C0 ad ca _ _ _ _) rfl rfl hl.1 rfl (Nat.le_of_ble_eq_true rfl) dd_D_retarget_8 ⟨Nat.zero_le _, Nat.zero_le _⟩ (fun h8 => ?_) (fun k9 h8 => ?_)
    · have hq8 := bd_map_n h8
      refine lv_astoreN hx hb dd_D_retarget_11 hl (by decide) rfl (fun ls hl => ?_)
      have hl : lv_has ls 5 [(4, .null), (3, .null), (0, .ref (ad 0)), (1, .int q), (2, .int ti)] := hl
      refine lv_aload_nN hx hb dd_D_retarget_13 rfl (lv_at hl 1 rfl) ?_
      refine lv_ifnullN (tgt := 29) hx hb dd_D_retarget_14 rfl ?_
      refine lv_iconst (v := -1) hx hb dd_D_retarget_29 (by decide) ?_
      have eF : cf_retarget M F N (bd_at q (N 1 0)) (bd_at ti (N 1 0)) = F := by simp only [hq2, hq8]; simp [cf_retarget]
      exact W.iret hx hb hr (fun tt htt hWW => ⟨⟨_, (), rfl, (by simp only [hq2, hq8]; simp [cm_retarget]), by rw [htt, eF]; exact hP, va_K.moved hWW.alike hK⟩, hS.F htt⟩) hS.2.2 dd_D_retarget_30
    · obtain ⟨a8, hq8, hl8, rfl, rfl⟩ := bd_map_s (by omega) h8
      refine lv_astore hx hb dd_D_retarget_11 hl (by decide) rfl (fun ls hl => ?_)
      have hl : lv_has ls 5 [(4, .ref (ad (8 + a8))), (3, .null), (0, .ref (ad 0)), (1, .int q), (2, .int (nI a8))] := hl
      refine lv_aload_nN hx hb dd_D_retarget_13 rfl (lv_at hl 1 rfl) ?_
      refine lv_ifnullN (tgt := 29) hx hb dd_D_retarget_14 rfl ?_
      refine lv_iconst (v := -1) hx hb dd_D_retarget_29 (by decide) ?_
      have eF : cf_retarget M F N (bd_at q (N 1 0)) (bd_at (nI a8) (N 1 0)) = F := by simp only [hq2, hq8]; simp [cf_retarget]
      exact W.iret hx hb hr (fun tt htt hWW => ⟨⟨_, (), rfl, (by simp only [hq2, hq8]; simp [cm_retarget]), by rw [htt, eF]; exact hP, va_K.moved hWW.alike hK⟩, hS.F htt⟩) hS.2.2 dd_D_retarget_30
  · obtain ⟨a2, hq2, hl2, rfl, rfl⟩ := bd_map_s (by omega) h2
    refine lv_astore_n hx hb dd_D_retarget_5 rfl hl (by decide) rfl (fun ls hl => ?_)
    have hl : lv_has ls 5 [(3, .ref (ad (8 + a2))), (0, .ref (ad 0)), (1, .int (nI a2)), (2, .int ti)] := hl
    refine lv_aload_n hx hb dd_D_retarget_6 rfl (lv_at hl 1 rfl) ?_
    refine lv_iload_n hx hb dd_D_retarget_7 rfl (lv_at hl 3 rfl) ?_
    refine cw_callq (k := 0) (C := rn_D) (T := ft_D) (NF := 9) (As := [.int ti]) (rest := []) ⟨hx, hb, hml, hown, hts⟩ (cc_D_queueAt l D ks ad ca M X F G N O B hC hks hMB ti) (bg_cwV 1 hts tw_ml_D_47 tw_im_D_queueAt tw_se_D_queueAt tw_in_D tw_co_D_queueAt rfl rfl th_D_queueAt ⟨Nat.le_of_ble_eq_true rfl, Nat.le_of_ble_eq_true rfl⟩) hK hP (hks.1 0 (by decide)) (cw_C0 ad ca _ _ _ _) rfl rfl hl.1 rfl (Nat.le_of_ble_eq_true rfl) dd_D_retarget_8 ⟨Nat.zero_le _, Nat.zero_le _⟩ (fun h8 => ?_) (fun k9 h8 => ?_)
    · have hq8 := bd_map_n h8
      refine lv_astoreN hx hb dd_D_retarget_11 hl (by decide) rfl (fun ls hl => ?_)
      have hl : lv_has ls 5 [(4, .null), (3, .ref (ad (8 + a2))), (0, .ref (ad 0)), (1, .int (nI a2)), (2, .int ti)] := hl
      refine lv_aload_n hx hb dd_D_retarget_13 rfl (lv_at hl 1 rfl) ?_
      refine lv_ifnull hx hb dd_D_retarget_14 ?_
      refine lv_aload_n hx hb dd_D_retarget_17 rfl (lv_at hl 1 rfl) ?_
      refine cw_calli (k := 8 + a2) (C := rn_Q) (T := ft_Q) (NF := 10) (As := []) (rest := []) (v := bd_b (decide (a2 < 3))) ⟨hx, hb, hml, hown, hts⟩ (cc_Q_isRoot l D ks ad ca M X F G N O B hC hks hMB a2 hl2) (bg_cwV 0 hts tw_ml_D_51 tw_im_Q_isRoot tw_se_Q_isRoot tw_in_Q tw_co_Q_isRoot rfl rfl th_Q_isRoot ⟨Nat.le_of_ble_eq_true rfl, Nat.le_of_ble_eq_true rfl⟩) hK hP (hks.2.1 _ hl2) (cw_CQ (Nat.lt_of_lt_of_le hl2 (cl_12 hC)) ad ca _ _ _ _) rfl rfl hl.1 rfl (Nat.le_of_ble_eq_true rfl) dd_D_retarget_18 ⟨Nat.zero_le _, Nat.zero_le _⟩ ?_
      refine bq_zne (tgt := 29) hx hb dd_D_retarget_21 rfl (fun h21 => ?_) (fun h21 => ?_)
      · have h21d := of_decide_eq_true h21
        refine lv_iconst (v := -1) hx hb dd_D_retarget_29 (by decide) ?_
        have eF : cf_retarget M F N (bd_at (nI a2) (N 1 0)) (bd_at ti (N 1 0)) = F := by simp only [hq2, hq8]; simp [cf_retarget, h21d]
        exact W.iret hx hb hr (fun tt htt hWW => ⟨⟨_, (), rfl, (by simp only [hq2, hq8]; simp [cm_retarget, h21d]), by rw [htt, eF]; exact hP, va_K.moved hWW.alike hK⟩, hS.F htt⟩) hS.2.2 dd_D_retarget_30
      · have h21d := of_decide_eq_false h21
        refine lv_aloadN hx hb dd_D_retarget_24 (lv_at hl 0 rfl) ?_
        refine lv_ifnonnullN hx hb dd_D_retarget_26 ?_
        refine lv_iconst (v := -1) hx hb dd_D_retarget_29 (by decide) ?_
        have eF : cf_retarget M F N (bd_at (nI a2) (N 1 0)) (bd_at ti (N 1 0)) = F := by simp only [hq2, hq8]; simp [cf_retarget, h21d]
        exact W.iret hx hb hr (fun tt htt hWW => ⟨⟨_, (), rfl, (by simp only [hq2, hq8]; simp [cm_retarget, h21d]), by rw [htt, eF]; exact hP, va_K.moved hWW.alike hK⟩, hS.F htt⟩) hS.2.2 dd_D_retarget_30
    · obtain ⟨a8, hq8, hl8, rfl, rfl⟩ := bd_map_s (by omega) h8
      refine lv_astore hx hb dd_D_retarget_11 hl (by decide) rfl (fun ls hl => ?_)
      have hl : lv_has ls 5 [(4, .ref (ad (8 + a8))), (3, .ref (ad (8 + a2))), (0, .ref (ad 0)), (1, .int (nI a2)), (2, .int (nI a8))] := hl
      refine lv_aload_n hx hb dd_D_retarget_13 rfl (lv_at hl 1 rfl) ?_
      refine lv_ifnull hx hb dd_D_retarget_14 ?_
      refine lv_aload_n hx hb dd_D_retarget_17 rfl (lv_at hl 1 rfl) ?_
      refine cw_calli (k := 8 + a2) (C := rn_Q) (T := ft_Q) (NF := 10) (As := []) (rest := []) (v := bd_b (decide (a2 < 3))) ⟨hx, hb, hml, hown, hts⟩ (cc_Q_isRoot l D ks ad ca M X F G N O B hC hks hMB a2 hl2) (bg_cwV 0 hts tw_ml_D_51 tw_im_Q_isRoot tw_se_Q_isRoot tw_in_Q tw_co_Q_isRoot rfl rfl th_Q_isRoot ⟨Nat.le_of_ble_eq_true rfl, Nat.le_of_ble_eq_true rfl⟩) hK hP (hks.2.1 _ hl2) (cw_CQ (Nat.lt_of_lt_of_le hl2 (cl_12 hC)) ad ca _ _ _ _) rfl rfl hl.1 rfl (Nat.le_of_ble_eq_true rfl) dd_D_retarget_18 ⟨Nat.zero_le _, Nat.zero_le _⟩ ?_
      refine bq_zne (tgt := 29) hx hb dd_D_retarget_21 rfl (fun h21 => ?_) (fun h21 => ?_)
      · have h21d := of_decide_eq_true h21
        refine lv_iconst (v := -1) hx hb dd_D_retarget_29 (by decide) ?_
        have eF : cf_retarget M F N (bd_at (nI a2) (N 1 0)) (bd_at (nI a8) (N 1 0)) = F := by simp only [hq2, hq8]; simp [cf_retarget, h21d]
        exact W.iret hx hb hr (fun tt htt hWW => ⟨⟨_, (), rfl, (by simp only [hq2, hq8]; simp [cm_retarget, h21d]), by rw [htt, eF]; exact hP, va_K.moved hWW.alike hK⟩, hS.F htt⟩) hS.2.2 dd_D_retarget_30
      · have h21d := of_decide_eq_false h21
        refine lv_aload hx hb dd_D_retarget_24 (lv_at hl 0 rfl) ?_
        refine lv_ifnonnull (tgt := 31) hx hb dd_D_retarget_26 rfl ?_
        refine lv_aload hx hb dd_D_retarget_31 (lv_at hl 0 rfl) ?_
        refine lv_aload_n hx hb dd_D_retarget_33 rfl (lv_at hl 1 rfl) ?_
        refine cw_calli (k := 8 + a8) (C := rn_Q) (T := ft_Q) (NF := 10) (As := [.ref (ad (8 + a2))]) (rest := []) (v := bd_b (sp_l N a8 a2)) ⟨hx, hb, hml, hown, hts⟩ (cc_Q_leadsTo l D ks ad ca M X F G N O B hC hks hMB hJ a8 a2 hl8 hl2) (bg_cwV 1 hts tw_ml_D_55 tw_im_Q_leadsTo tw_se_Q_leadsTo tw_in_Q tw_co_Q_leadsTo rfl rfl th_Q_leadsTo ⟨Nat.le_of_ble_eq_true rfl, Nat.le_of_ble_eq_true rfl⟩) hK hP (hks.2.1 _ hl8) (cw_CQ (Nat.lt_of_lt_of_le hl8 (cl_12 hC)) ad ca _ _ _ _) rfl rfl hl.1 rfl (Nat.le_of_ble_eq_true rfl) dd_D_retarget_34 ⟨Nat.zero_le _, Nat.zero_le _⟩ ?_
        refine bq_zeq (tgt := 43) hx hb dd_D_retarget_37 rfl (fun h37 => ?_) (fun h37 => ?_)
        · refine lv_aload_n hx hb dd_D_retarget_43 rfl (lv_at hl 1 rfl) ?_
          refine cw_get1 (k := 8 + a2) (C := rn_Q) (T := ft_Q) (NF := 10) (v := .int (nI (M (8 + a2) 7))) hx hb hts tw_fs_Q hown hK hP (hks.2.1 _ hl2) (cw_CQ (Nat.lt_of_lt_of_le hl2 (cl_12 hC)) ad ca _ _ _ _) rfl 7 (by decide) (hts _ tw_fl_D_59) rfl rfl dd_D_retarget_44 ?_
          refine bq_nle (tgt := 53) hx hb (hMB _ _) dd_D_retarget_47 rfl (fun h47 => ?_) (fun h47 => ?_)
          · refine lv_aload_n hx hb dd_D_retarget_53 rfl (lv_at hl 1 rfl) ?_
            refine lv_aload hx hb dd_D_retarget_54 (lv_at hl 0 rfl) ?_
            refine cw_put1 (k := 8 + a2) (C := rn_Q) (T := ft_Q) (NF := 10) (v := .ref (ad (8 + a8))) (ty := fy_Q 2) (M' := M) (X' := X) (F' := (sp_u F (8 + a2) 2 (some (8 + a8)))) (G' := G) hx hb hts tw_fs_Q fy_Q fo_Q fn_Q hown hK hP (cw_D hJ ca M X F G) hS (hks.2.1 _ hl2) (cw_CQ (Nat.lt_of_lt_of_le hl2 (cl_12 hC)) ad ca _ _ _ _) rfl 2 (by decide) (hts _ tw_fl_D_62) rfl rfl (fo_Q 2 (by decide)) rfl rfl (Nat.le_of_ble_eq_true rfl) (fun _ _ => rfl) (fun _ _ => rfl) (fun _ hq => sp_u_f _ _ _ hq) (fun _ _ => rfl) (by rw [sp_u_k F (8 + a2) 2 (some (8 + a8))]; exact (cw_CQ (Nat.lt_of_lt_of_le hl2 (cl_12 hC)) ad ca _ _ _ _)) dd_D_retarget_56 (fun H locs hP hS => ?_)
            refine lv_iconst (v := nI 0) hx hb dd_D_retarget_59 (by decide) ?_
            have eF : cf_retarget M F N (bd_at (nI a2) (N 1 0)) (bd_at (nI a8) (N 1 0)) = sp_u F (8 + a2) 2 (some (8 + a8)) := by simp only [hq2, hq8]; simp [cf_retarget, h21d, h37, h47]
            exact W.iret hx hb hr (fun tt htt hWW => ⟨⟨_, (), rfl, (by simp only [hq2, hq8]; simp [cm_retarget, h21d, h37, h47]), by rw [htt, eF]; exact hP, va_K.moved hWW.alike hK⟩, hS.F htt⟩) hS.2.2 dd_D_retarget_60
          · refine lv_bipush (v := -6) hx hb dd_D_retarget_50 (by decide) ?_
            have eF : cf_retarget M F N (bd_at (nI a2) (N 1 0)) (bd_at (nI a8) (N 1 0)) = F := by simp only [hq2, hq8]; simp [cf_retarget, h21d, h37, h47, Nat.not_le.mpr h47]
            exact W.iret hx hb hr (fun tt htt hWW => ⟨⟨_, (), rfl, (by simp only [hq2, hq8]; simp [cm_retarget, h21d, h37, h47, Nat.not_le.mpr h47]), by rw [htt, eF]; exact hP, va_K.moved hWW.alike hK⟩, hS.F htt⟩) hS.2.2 dd_D_retarget_52
        · refine lv_bipush (v := -5) hx hb dd_D_retarget_40 (by decide) ?_
          have eF : cf_retarget M F N (bd_at (nI a2) (N 1 0)) (bd_at (nI a8) (N 1 0)) = F := by simp only [hq2, hq8]; simp [cf_retarget, h21d, h37]
          exact W.iret hx hb hr (fun tt htt hWW => ⟨⟨_, (), rfl, (by simp only [hq2, hq8]; simp [cm_retarget, h21d, h37]), by rw [htt, eF]; exact hP, va_K.moved hWW.alike hK⟩, hS.F htt⟩) hS.2.2 dd_D_retarget_42

set_option maxHeartbeats 4000000 in
set_option maxRecDepth 100000 in
theorem cc_D_enter (l : Launch) (D : va_G) (ks : List Nat) (ad : Nat → Nat) (ca : Nat → ClassId) (hJ : cw_J ks ad) (M : sp_N) (X : sp_B) (F : sp_O) (G : sp_Z) (N : sp_N) (O : sp_O) (B : sp_B) (hC : cl_S M X F N O B) (hks : cl_k ks N) (hMB : cl_B M) (q : Int32) : Met l my_D_enter (Cond.code my_D_enter cd_D_enter 3 (some .boolean) :: bg_tbl) ({ frames := 1, cells := 0, slots := 0, locals := 21 }) (va_Pc [.ref (ad 0), .int q] (cw_U D ks ad ca M X F G)) (va_Qi (fun r (_ : Unit) => r = bd_b (cm_enter M (bd_at q 4))) (fun _ uu => cw_U D ks ad ca (cn_enter M (bd_at q 4)) X F G uu) (cw_A ks ad)) 0 0 (cw_A ks ad) := by
  refine Met.ofW (cc := cd_D_enter) (maxL := 3) (ret := (some .boolean)) (by decide) rfl ?_
  intro p e s m args below meth c s₁ BB hml hv
  obtain ⟨rfl, hP, hK⟩ := hv
  have hx := BB.exec
  have hb := BB.bytes
  have hr := BB.returns
  have hts : ∀ w ∈ bg_tbl, w.before ([.ref (ad 0), .int q] : List Value).toArray s = true := fun w h => atoms_spec (ws := (Cond.code my_D_enter cd_D_enter 3 (some .boolean) :: bg_tbl)) BB.pre w (List.mem_cons_of_mem _ h)
  have hown : s.vm.findClass rn_D = some m.cls := findClass_of_methodNamed BB.named
  have hlocks := BB.notSynchronized
  have h12 := cl_12 hC
  have h160 := cl_160 hC
  have h3q := cl_3 hC
  have hM4 := cl_M4 hC
  have hM5 := cl_M5 hC
  have hS : va_S (cw_A ks ad) s.heap s.heap [] := va_S.rf
  have hl := lv_entry ([.ref (ad 0), .int q]) (n := 3) (Nat.le_of_ble_eq_true rfl)
  rw [lg_entry_eq]
  generalize (lg_sl ([.ref (ad 0), .int q]) ++ List.replicate (3 - (lg_sl ([.ref (ad 0), .int q])).length) Slot.unset).toArray = ls at hl ⊢
  have hl : lv_has ls 3 [(0, .ref (ad 0)), (1, .int q)] := hl
  refine lv_aload_n hx hb dd_D_enter_0 rfl (lv_at hl 0 rfl) ?_
  refine lv_iload_n hx hb dd_D_enter_1 rfl (lv_at hl 1 rfl) ?_
  refine cw_callq (k := 0) (C := rn_D) (T := ft_D) (NF := 9) (As := [.int q]) (rest := []) ⟨hx, hb, hml, hown, hts⟩ (cc_D_groupAt l D ks ad ca M X F G N O B hC hks hMB q) (bg_cwV 1 hts tw_ml_D_66 tw_im_D_groupAt tw_se_D_groupAt tw_in_D tw_co_D_groupAt rfl rfl th_D_groupAt ⟨Nat.le_of_ble_eq_true rfl, Nat.le_of_ble_eq_true rfl⟩) hK hP (hks.1 0 (by decide)) (cw_C0 ad ca _ _ _ _) rfl rfl hl.1 rfl (Nat.le_of_ble_eq_true rfl) dd_D_enter_2 ⟨Nat.zero_le _, Nat.zero_le _⟩ (fun h2 => ?_) (fun k9 h2 => ?_)
  · have hq2 := bd_map_n h2
    refine lv_astore_nN hx hb dd_D_enter_5 rfl hl (by decide) rfl (fun ls hl => ?_)
    have hl : lv_has ls 3 [(2, .null), (0, .ref (ad 0)), (1, .int q)] := hl
    refine lv_aload_nN hx hb dd_D_enter_6 rfl (lv_at hl 0 rfl) ?_
    refine lv_ifnullN (tgt := 20) hx hb dd_D_enter_7 rfl ?_
    refine lv_iconst (v := bd_b false) hx hb dd_D_enter_20 (by decide) ?_
    have eM : cn_enter M (bd_at q 4) = M := by simp only [hq2]; simp [cn_enter]
    exact W.zret (ty := .boolean) hx hb hr (bd_b_nar _) (fun tt htt hWW => ⟨⟨_, (), rfl, (by simp only [hq2]; simp [cm_enter]), by rw [htt, eM]; exact hP, va_K.moved hWW.alike hK⟩, hS.F htt⟩) hS.2.2 dd_D_enter_21
  · obtain ⟨a2, hq2, hl2, rfl, rfl⟩ := bd_map_s (by omega) h2
    refine lv_astore_n hx hb dd_D_enter_5 rfl hl (by decide) rfl (fun ls hl => ?_)
    have hl : lv_has ls 3 [(2, .ref (ad (4 + a2))), (0, .ref (ad 0)), (1, .int (nI a2))] := hl
    refine lv_aload_n hx hb dd_D_enter_6 rfl (lv_at hl 0 rfl) ?_
    refine lv_ifnull hx hb dd_D_enter_7 ?_
    refine lv_aload_n hx hb dd_D_enter_10 rfl (lv_at hl 0 rfl) ?_
    refine cw_get1 (k := 4 + a2) (C := rn_G) (T := ft_G) (NF := 2) (v := .int (nI (M (4 + a2) 0))) hx hb hts tw_fs_G hown hK hP (hks.1 _ (by omega)) (cw_CG hl2 ad ca _ _ _ _) rfl 0 (by decide) (hts _ tw_fl_D_120) rfl rfl dd_D_enter_11 ?_
    refine lv_sipush (v := nI 200) hx hb dd_D_enter_14 (by decide) ?_
    refine bq_lt (tgt := 22) hx hb (hMB _ _) (by decide) dd_D_enter_17 rfl (fun h17 => ?_) (fun h17 => ?_)
    · refine lv_aload_n hx hb dd_D_enter_22 rfl (lv_at hl 0 rfl) ?_
      refine lv_dup hx hb dd_D_enter_23 rfl ?_
      refine cw_get1 (k := 4 + a2) (C := rn_G) (T := ft_G) (NF := 2) (v := .int (nI (M (4 + a2) 0))) hx hb hts tw_fs_G hown hK hP (hks.1 _ (by omega)) (cw_CG hl2 ad ca _ _ _ _) rfl 0 (by decide) (hts _ tw_fl_D_120) rfl rfl dd_D_enter_24 ?_
      refine lv_iconst (v := nI 1) hx hb dd_D_enter_27 (by decide) ?_
      refine lv_iadd hx hb dd_D_enter_28 ?_
      rw [nI_add]
      refine cw_put1 (k := 4 + a2) (C := rn_G) (T := ft_G) (NF := 2) (v := .int (nI ((M (4 + a2) 0) + 1))) (ty := fy_G 0) (M' := (sp_u M (4 + a2) 0 ((M (4 + a2) 0) + 1))) (X' := X) (F' := F) (G' := G) hx hb hts tw_fs_G fy_G fo_G fn_G hown hK hP (cw_D hJ ca M X F G) hS (hks.1 _ (by omega)) (cw_CG hl2 ad ca _ _ _ _) rfl 0 (by decide) (hts _ tw_fl_D_120) rfl rfl (fo_G 0 (by decide)) rfl rfl (Nat.le_of_ble_eq_true rfl) (fun _ hq => sp_u_f _ _ _ hq) (fun _ _ => rfl) (fun _ _ => rfl) (fun _ _ => rfl) (by rw [sp_u_k M (4 + a2) 0 ((M (4 + a2) 0) + 1)]; exact (cw_CG hl2 ad ca _ _ _ _)) dd_D_enter_29 (fun H locs hP hS => ?_)
      refine lv_iconst (v := bd_b true) hx hb dd_D_enter_32 (by decide) ?_
      have eM : cn_enter M (bd_at (nI a2) 4) = sp_u M (4 + a2) 0 ((M (4 + a2) 0) + 1) := by simp only [hq2]; simp [cn_enter, h17, Nat.not_le.mpr h17]
      exact W.zret (ty := .boolean) hx hb hr (bd_b_nar _) (fun tt htt hWW => ⟨⟨_, (), rfl, (by simp only [hq2]; simp [cm_enter, h17, Nat.not_le.mpr h17]), by rw [htt, eM]; exact hP, va_K.moved hWW.alike hK⟩, hS.F htt⟩) hS.2.2 dd_D_enter_33
    · refine lv_iconst (v := bd_b false) hx hb dd_D_enter_20 (by decide) ?_
      have eM : cn_enter M (bd_at (nI a2) 4) = M := by simp only [hq2]; simp [cn_enter, h17, Nat.not_lt.mpr h17]
      exact W.zret (ty := .boolean) hx hb hr (bd_b_nar _) (fun tt htt hWW => ⟨⟨_, (), rfl, (by simp only [hq2]; simp [cm_enter, h17, Nat.not_lt.mpr h17]), by rw [htt, eM]; exact hP, va_K.moved hWW.alike hK⟩, hS.F htt⟩) hS.2.2 dd_D_enter_21

set_option maxHeartbeats 4000000 in
set_option maxRecDepth 100000 in
theorem cc_D_leave (l : Launch) (D : va_G) (ks : List Nat) (ad : Nat → Nat) (ca : Nat → ClassId) (hJ : cw_J ks ad) (M : sp_N) (X : sp_B) (F : sp_O) (G : sp_Z) (N : sp_N) (O : sp_O) (B : sp_B) (hC : cl_S M X F N O B) (hks : cl_k ks N) (hMB : cl_B M) (q : Int32) : Met l my_D_leave (Cond.code my_D_leave cd_D_leave 3 (some .boolean) :: bg_tbl) ({ frames := 3, cells := 0, slots := 0, locals := 64 }) (va_Pc [.ref (ad 0), .int q] (cw_U D ks ad ca M X F G)) (va_Qi (fun r (_ : Unit) => r = bd_b (cm_leave M (bd_at q 4))) (fun _ uu => cw_U D ks ad ca ((cn_leave M F N (bd_at q 4)).1) X ((cn_leave M F N (bd_at q 4)).2) G uu) (cw_A ks ad)) 0 0 (cw_A ks ad) := by
  refine Met.ofW (cc := cd_D_leave) (maxL := 3) (ret := (some .boolean)) (by decide) rfl ?_
  intro p e s m args below meth c s₁ BB hml hv
  obtain ⟨rfl, hP, hK⟩ := hv
  have hx := BB.exec
  have hb := BB.bytes
  have hr := BB.returns
  have hts : ∀ w ∈ bg_tbl, w.before ([.ref (ad 0), .int q] : List Value).toArray s = true := fun w h => atoms_spec (ws := (Cond.code my_D_leave cd_D_leave 3 (some .boolean) :: bg_tbl)) BB.pre w (List.mem_cons_of_mem _ h)
  have hown : s.vm.findClass rn_D = some m.cls := findClass_of_methodNamed BB.named
  have hlocks := BB.notSynchronized
  have h12 := cl_12 hC
  have h160 := cl_160 hC
  have h3q := cl_3 hC
  have hM4 := cl_M4 hC
  have hM5 := cl_M5 hC
  have hS : va_S (cw_A ks ad) s.heap s.heap [] := va_S.rf
  have hl := lv_entry ([.ref (ad 0), .int q]) (n := 3) (Nat.le_of_ble_eq_true rfl)
  rw [lg_entry_eq]
  generalize (lg_sl ([.ref (ad 0), .int q]) ++ List.replicate (3 - (lg_sl ([.ref (ad 0), .int q])).length) Slot.unset).toArray = ls at hl ⊢
  have hl : lv_has ls 3 [(0, .ref (ad 0)), (1, .int q)] := hl
  refine lv_aload_n hx hb dd_D_leave_0 rfl (lv_at hl 0 rfl) ?_
  refine lv_iload_n hx hb dd_D_leave_1 rfl (lv_at hl 1 rfl) ?_
  refine cw_callq (k := 0) (C := rn_D) (T := ft_D) (NF := 9) (As := [.int q]) (rest := []) ⟨hx, hb, hml, hown, hts⟩ (cc_D_groupAt l D ks ad ca M X F G N O B hC hks hMB q) (bg_cwV 1 hts tw_ml_D_66 tw_im_D_groupAt tw_se_D_groupAt tw_in_D tw_co_D_groupAt rfl rfl th_D_groupAt ⟨Nat.le_of_ble_eq_true rfl, Nat.le_of_ble_eq_true rfl⟩) hK hP (hks.1 0 (by decide)) (cw_C0 ad ca _ _ _ _) rfl rfl hl.1 rfl (Nat.le_of_ble_eq_true rfl) dd_D_leave_2 ⟨Nat.zero_le _, Nat.zero_le _⟩ (fun h2 => ?_) (fun k9 h2 => ?_)
  · have hq2 := bd_map_n h2
    refine lv_astore_nN hx hb dd_D_leave_5 rfl hl (by decide) rfl (fun ls hl => ?_)
    have hl : lv_has ls 3 [(2, .null), (0, .ref (ad 0)), (1, .int q)] := hl
    refine lv_aload_nN hx hb dd_D_leave_6 rfl (lv_at hl 0 rfl) ?_
    refine lv_ifnullN (tgt := 17) hx hb dd_D_leave_7 rfl ?_
    refine lv_iconst (v := bd_b false) hx hb dd_D_leave_17 (by decide) ?_
    have eM : (cn_leave M F N (bd_at q 4)).1 = M := by simp only [hq2]; simp [cn_leave]
    have eF : (cn_leave M F N (bd_at q 4)).2 = F := by simp only [hq2]; simp [cn_leave]
    exact W.zret (ty := .boolean) hx hb hr (bd_b_nar _) (fun tt htt hWW => ⟨⟨_, (), rfl, (by simp only [hq2]; simp [cm_leave]), by rw [htt, eM, eF]; exact hP, va_K.moved hWW.alike hK⟩, hS.F htt⟩) hS.2.2 dd_D_leave_18
  · obtain ⟨a2, hq2, hl2, rfl, rfl⟩ := bd_map_s (by omega) h2
    refine lv_astore_n hx hb dd_D_leave_5 rfl hl (by decide) rfl (fun ls hl => ?_)
    have hl : lv_has ls 3 [(2, .ref (ad (4 + a2))), (0, .ref (ad 0)), (1, .int (nI a2))] := hl
    refine lv_aload_n hx hb dd_D_leave_6 rfl (lv_at hl 0 rfl) ?_
    refine lv_ifnull hx hb dd_D_leave_7 ?_
    refine lv_aload_n hx hb dd_D_leave_10 rfl (lv_at hl 0 rfl) ?_
    refine cw_get1 (k := 4 + a2) (C := rn_G) (T := ft_G) (NF := 2) (v := .int (nI (M (4 + a2) 0))) hx hb hts tw_fs_G hown hK hP (hks.1 _ (by omega)) (cw_CG hl2 ad ca _ _ _ _) rfl 0 (by decide) (hts _ tw_fl_D_120) rfl rfl dd_D_leave_11 ?_
    refine bq_ngt (tgt := 19) hx hb (hMB _ _) dd_D_leave_14 rfl (fun h14 => ?_) (fun h14 => ?_)
    · have h14n := Nat.ne_of_gt h14
      refine lv_aload_n hx hb dd_D_leave_19 rfl (lv_at hl 0 rfl) ?_
      refine lv_dup hx hb dd_D_leave_20 rfl ?_
      refine cw_get1 (k := 4 + a2) (C := rn_G) (T := ft_G) (NF := 2) (v := .int (nI (M (4 + a2) 0))) hx hb hts tw_fs_G hown hK hP (hks.1 _ (by omega)) (cw_CG hl2 ad ca _ _ _ _) rfl 0 (by decide) (hts _ tw_fl_D_120) rfl rfl dd_D_leave_21 ?_
      refine lv_iconst (v := nI 1) hx hb dd_D_leave_24 (by decide) ?_
      refine lv_isub hx hb dd_D_leave_25 ?_
      rw [pk_sub (by omega)]
      refine cw_put1 (k := 4 + a2) (C := rn_G) (T := ft_G) (NF := 2) (v := .int (nI ((M (4 + a2) 0) - 1))) (ty := fy_G 0) (M' := (sp_u M (4 + a2) 0 ((M (4 + a2) 0) - 1))) (X' := X) (F' := F) (G' := G) hx hb hts tw_fs_G fy_G fo_G fn_G hown hK hP (cw_D hJ ca M X F G) hS (hks.1 _ (by omega)) (cw_CG hl2 ad ca _ _ _ _) rfl 0 (by decide) (hts _ tw_fl_D_120) rfl rfl (fo_G 0 (by decide)) rfl rfl (Nat.le_of_ble_eq_true rfl) (fun _ hq => sp_u_f _ _ _ hq) (fun _ _ => rfl) (fun _ _ => rfl) (fun _ _ => rfl) (by rw [sp_u_k M (4 + a2) 0 ((M (4 + a2) 0) - 1)]; exact (cw_CG hl2 ad ca _ _ _ _)) dd_D_leave_26 (fun H locs hP hS => ?_)
      refine lv_aload_n hx hb dd_D_leave_29 rfl (lv_at hl 1 rfl) ?_
      refine lv_aload_n hx hb dd_D_leave_30 rfl (lv_at hl 0 rfl) ?_
      refine cw_callwv (k := 0) (C := rn_D) (T := ft_D) (NF := 9) (As := [.ref (ad (4 + a2))]) (rest := []) ⟨hx, hb, hml, hown, hts⟩ (cc_D_releaseIfEmpty l D ks ad ca hJ (sp_u M (4 + a2) 0 ((M (4 + a2) 0) - 1)) X F G N O B (cl_S_Mg hC (by rw [sp_u_app, if_neg (by omega)]) (by rw [sp_u_app, if_neg (by omega)]) (fun j => by rw [sp_u_app, if_neg (by omega)]) (fun t => by rw [sp_u_app, if_neg (by omega)])) hks (cl_B_u hMB (by have h9 := hMB (4 + a2) 0; omega)) a2 hl2) (bg_cwV 1 hts tw_ml_D_123 tw_im_D_releaseIfEmpty tw_se_D_releaseIfEmpty tw_in_D tw_co_D_releaseIfEmpty rfl rfl th_D_releaseIfEmpty ⟨Nat.le_of_ble_eq_true rfl, Nat.le_of_ble_eq_true rfl⟩) hK hP hS (hks.1 0 (by decide)) (cw_C0 ad ca _ _ _ _) rfl rfl hl.1 rfl (Nat.le_of_ble_eq_true rfl) dd_D_leave_31 ⟨Nat.zero_le _, Nat.zero_le _⟩ (fun H locs hP hS => ?_)
      refine lv_iconst (v := bd_b true) hx hb dd_D_leave_34 (by decide) ?_
      have eM : (cn_leave M F N (bd_at (nI a2) 4)).1 = (cs_R (sp_u M (4 + a2) 0 ((M (4 + a2) 0) - 1)) F N a2).1 := by simp only [hq2]; simp [cn_leave, h14, Nat.not_le.mpr h14, h14n]
      have eF : (cn_leave M F N (bd_at (nI a2) 4)).2 = (cs_R (sp_u M (4 + a2) 0 ((M (4 + a2) 0) - 1)) F N a2).2 := by simp only [hq2]; simp [cn_leave, h14, Nat.not_le.mpr h14, h14n]
      exact W.zret (ty := .boolean) hx hb hr (bd_b_nar _) (fun tt htt hWW => ⟨⟨_, (), rfl, (by simp only [hq2]; simp [cm_leave, h14, Nat.not_le.mpr h14, h14n]), by rw [htt, eM, eF]; exact hP, va_K.moved hWW.alike hK⟩, hS.F htt⟩) hS.2.2 dd_D_leave_35
    · refine lv_iconst (v := bd_b false) hx hb dd_D_leave_17 (by decide) ?_
      have eM : (cn_leave M F N (bd_at (nI a2) 4)).1 = M := by simp only [hq2]; simp [cn_leave, h14]
      have eF : (cn_leave M F N (bd_at (nI a2) 4)).2 = F := by simp only [hq2]; simp [cn_leave, h14]
      exact W.zret (ty := .boolean) hx hb hr (bd_b_nar _) (fun tt htt hWW => ⟨⟨_, (), rfl, (by simp only [hq2]; simp [cm_leave, h14]), by rw [htt, eM, eF]; exact hP, va_K.moved hWW.alike hK⟩, hS.F htt⟩) hS.2.2 dd_D_leave_18

set_option maxHeartbeats 4000000 in
set_option maxRecDepth 100000 in
theorem cc_D_cancel (l : Launch) (D : va_G) (ks : List Nat) (ad : Nat → Nat) (ca : Nat → ClassId) (hJ : cw_J ks ad) (M : sp_N) (X : sp_B) (F : sp_O) (G : sp_Z) (N : sp_N) (O : sp_O) (B : sp_B) (hC : cl_S M X F N O B) (hks : cl_k ks N) (hMB : cl_B M) (q : Int32) : Met l my_D_cancel (Cond.code my_D_cancel cd_D_cancel 3 (some .boolean) :: bg_tbl) ({ frames := 1, cells := 0, slots := 0, locals := 21 }) (va_Pc [.ref (ad 0), .int q] (cw_U D ks ad ca M X F G)) (va_Qi (fun r (_ : Unit) => r = bd_b (cm_cancel M X (bd_at q (N 6 0)))) (fun _ uu => cw_U D ks ad ca M (cx_cancel M X (bd_at q (N 6 0))) F G uu) (cw_A ks ad)) 0 0 (cw_A ks ad) := by
  refine Met.ofW (cc := cd_D_cancel) (maxL := 3) (ret := (some .boolean)) (by decide) rfl ?_
  intro p e s m args below meth c s₁ BB hml hv
  obtain ⟨rfl, hP, hK⟩ := hv
  have hx := BB.exec
  have hb := BB.bytes
  have hr := BB.returns
  have hts : ∀ w ∈ bg_tbl, w.before ([.ref (ad 0), .int q] : List Value).toArray s = true := fun w h => atoms_spec (ws := (Cond.code my_D_cancel cd_D_cancel 3 (some .boolean) :: bg_tbl)) BB.pre w (List.mem_cons_of_mem _ h)
  have hown : s.vm.findClass rn_D = some m.cls := findClass_of_methodNamed BB.named
  have hlocks := BB.notSynchronized
  have h12 := cl_12 hC
  have h160 := cl_160 hC
  have h3q := cl_3 hC
  have hM4 := cl_M4 hC
  have hM5 := cl_M5 hC
  have hS : va_S (cw_A ks ad) s.heap s.heap [] := va_S.rf
  have hl := lv_entry ([.ref (ad 0), .int q]) (n := 3) (Nat.le_of_ble_eq_true rfl)
  rw [lg_entry_eq]
  generalize (lg_sl ([.ref (ad 0), .int q]) ++ List.replicate (3 - (lg_sl ([.ref (ad 0), .int q])).length) Slot.unset).toArray = ls at hl ⊢
  have hl : lv_has ls 3 [(0, .ref (ad 0)), (1, .int q)] := hl
  refine lv_aload_n hx hb dd_D_cancel_0 rfl (lv_at hl 0 rfl) ?_
  refine lv_iload_n hx hb dd_D_cancel_1 rfl (lv_at hl 1 rfl) ?_
  refine cw_callq (k := 0) (C := rn_D) (T := ft_D) (NF := 9) (As := [.int q]) (rest := []) ⟨hx, hb, hml, hown, hts⟩ (cc_D_blockAt l D ks ad ca M X F G N O B hC hks hMB q) (bg_cwV 1 hts tw_ml_D_102 tw_im_D_blockAt tw_se_D_blockAt tw_in_D tw_co_D_blockAt rfl rfl th_D_blockAt ⟨Nat.le_of_ble_eq_true rfl, Nat.le_of_ble_eq_true rfl⟩) hK hP (hks.1 0 (by decide)) (cw_C0 ad ca _ _ _ _) rfl rfl hl.1 rfl (Nat.le_of_ble_eq_true rfl) dd_D_cancel_2 ⟨Nat.zero_le _, Nat.zero_le _⟩ (fun h2 => ?_) (fun k9 h2 => ?_)
  · have hq2 := bd_map_n h2
    refine lv_astore_nN hx hb dd_D_cancel_5 rfl hl (by decide) rfl (fun ls hl => ?_)
    have hl : lv_has ls 3 [(2, .null), (0, .ref (ad 0)), (1, .int q)] := hl
    refine lv_aload_nN hx hb dd_D_cancel_6 rfl (lv_at hl 0 rfl) ?_
    refine lv_ifnullN (tgt := 24) hx hb dd_D_cancel_7 rfl ?_
    refine lv_iconst (v := bd_b false) hx hb dd_D_cancel_24 (by decide) ?_
    have eX : cx_cancel M X (bd_at q (N 6 0)) = X := by simp only [hq2]; simp [cx_cancel]
    exact W.zret (ty := .boolean) hx hb hr (bd_b_nar _) (fun tt htt hWW => ⟨⟨_, (), rfl, (by simp only [hq2]; simp [cm_cancel]), by rw [htt, eX]; exact hP, va_K.moved hWW.alike hK⟩, hS.F htt⟩) hS.2.2 dd_D_cancel_25
  · obtain ⟨a2, hq2, hl2, rfl, rfl⟩ := bd_map_s (by omega) h2
    refine lv_astore_n hx hb dd_D_cancel_5 rfl hl (by decide) rfl (fun ls hl => ?_)
    have hl : lv_has ls 3 [(2, .ref (ad (20 + a2))), (0, .ref (ad 0)), (1, .int (nI a2))] := hl
    refine lv_aload_n hx hb dd_D_cancel_6 rfl (lv_at hl 0 rfl) ?_
    refine lv_ifnull hx hb dd_D_cancel_7 ?_
    refine lv_aload_n hx hb dd_D_cancel_10 rfl (lv_at hl 0 rfl) ?_
    refine cw_get1 (k := 20 + a2) (C := rn_B) (T := ft_B) (NF := 11) (v := .int (bd_b (X (20 + a2) 4))) hx hb hts tw_fs_B hown hK hP (hks.2.2 _ hl2) (cw_CB _ ad ca _ _ _ _) rfl 4 (by decide) (hts _ tw_fl_D_127) rfl rfl dd_D_cancel_11 ?_
    refine bq_zne (tgt := 24) hx hb dd_D_cancel_14 rfl (fun h14 => ?_) (fun h14 => ?_)
    · refine lv_iconst (v := bd_b false) hx hb dd_D_cancel_24 (by decide) ?_
      have eX : cx_cancel M X (bd_at (nI a2) (N 6 0)) = X := by simp only [hq2]; simp [cx_cancel, h14]
      exact W.zret (ty := .boolean) hx hb hr (bd_b_nar _) (fun tt htt hWW => ⟨⟨_, (), rfl, (by simp only [hq2]; simp [cm_cancel, h14]), by rw [htt, eX]; exact hP, va_K.moved hWW.alike hK⟩, hS.F htt⟩) hS.2.2 dd_D_cancel_25
    · refine lv_aload_n hx hb dd_D_cancel_17 rfl (lv_at hl 0 rfl) ?_
      refine cw_calli (k := 20 + a2) (C := rn_B) (T := ft_B) (NF := 11) (As := []) (rest := []) (v := bd_b (decide (M (20 + a2) 3 < 3))) ⟨hx, hb, hml, hown, hts⟩ (cc_B_isAhead l D ks ad ca M X F G N O B hC hks hMB a2 hl2) (bg_cwV 0 hts tw_ml_D_131 tw_im_B_isAhead tw_se_B_isAhead tw_in_B tw_co_B_isAhead rfl rfl th_B_isAhead ⟨Nat.le_of_ble_eq_true rfl, Nat.le_of_ble_eq_true rfl⟩) hK hP (hks.2.2 _ hl2) (cw_CB _ ad ca _ _ _ _) rfl rfl hl.1 rfl (Nat.le_of_ble_eq_true rfl) dd_D_cancel_18 ⟨Nat.zero_le _, Nat.zero_le _⟩ ?_
      refine bq_zne (tgt := 26) hx hb dd_D_cancel_21 rfl (fun h21 => ?_) (fun h21 => ?_)
      · have h21d := of_decide_eq_true h21
        refine lv_aload_n hx hb dd_D_cancel_26 rfl (lv_at hl 0 rfl) ?_
        refine lv_iconst (v := bd_b true) hx hb dd_D_cancel_27 (by decide) ?_
        refine cw_put1 (k := 20 + a2) (C := rn_B) (T := ft_B) (NF := 11) (v := .int (bd_b true)) (ty := fy_B 4) (M' := M) (X' := (sp_u X (20 + a2) 4 true)) (F' := F) (G' := G) hx hb hts tw_fs_B fy_B fo_B fn_B hown hK hP (cw_D hJ ca M X F G) hS (hks.2.2 _ hl2) (cw_CB _ ad ca _ _ _ _) rfl 4 (by decide) (hts _ tw_fl_D_127) rfl rfl (fo_B 4 (by decide)) (bd_b_nar _) (bd_b_fit _) (Nat.le_of_ble_eq_true rfl) (fun _ _ => rfl) (fun _ hq => sp_u_f _ _ _ hq) (fun _ _ => rfl) (fun _ _ => rfl) (by rw [sp_u_k X (20 + a2) 4 true]; exact (cw_CB _ ad ca _ _ _ _)) dd_D_cancel_28 (fun H locs hP hS => ?_)
        refine lv_iconst (v := bd_b true) hx hb dd_D_cancel_31 (by decide) ?_
        have eX : cx_cancel M X (bd_at (nI a2) (N 6 0)) = sp_u X (20 + a2) 4 true := by simp only [hq2]; simp [cx_cancel, h14, h21d]
        exact W.zret (ty := .boolean) hx hb hr (bd_b_nar _) (fun tt htt hWW => ⟨⟨_, (), rfl, (by simp only [hq2]; simp [cm_cancel, h14, h21d]), by rw [htt, eX]; exact hP, va_K.moved hWW.alike hK⟩, hS.F htt⟩) hS.2.2 dd_D_cancel_32
      · have h21d := of_decide_eq_false h21
        refine lv_iconst (v := bd_b false) hx hb dd_D_cancel_24 (by decide) ?_
        have eX : cx_cancel M X (bd_at (nI a2) (N 6 0)) = X := by simp only [hq2]; simp [cx_cancel, h14, h21d]
        exact W.zret (ty := .boolean) hx hb hr (bd_b_nar _) (fun tt htt hWW => ⟨⟨_, (), rfl, (by simp only [hq2]; simp [cm_cancel, h14, h21d]), by rw [htt, eX]; exact hP, va_K.moved hWW.alike hK⟩, hS.F htt⟩) hS.2.2 dd_D_cancel_25

set_option maxHeartbeats 4000000 in
set_option maxRecDepth 100000 in
theorem cc_D_hold (l : Launch) (D : va_G) (ks : List Nat) (ad : Nat → Nat) (ca : Nat → ClassId) (hJ : cw_J ks ad) (M : sp_N) (X : sp_B) (F : sp_O) (G : sp_Z) (N : sp_N) (O : sp_O) (B : sp_B) (hC : cl_S M X F N O B) (hks : cl_k ks N) (hMB : cl_B M) (q : Int32) (on : Bool) : Met l my_D_hold (Cond.code my_D_hold cd_D_hold 4 (some .int) :: bg_tbl) ({ frames := 1, cells := 0, slots := 0, locals := 21 }) (va_Pc [.ref (ad 0), .int q, .int (bd_b on)] (cw_U D ks ad ca M X F G)) (va_Qi (fun r (_ : Unit) => r = cm_hold M (bd_at q (N 1 0)) on) (fun _ uu => cw_U D ks ad ca (cn_hold M (bd_at q (N 1 0)) on) X F G uu) (cw_A ks ad)) 0 0 (cw_A ks ad) := by
  refine Met.ofW (cc := cd_D_hold) (maxL := 4) (ret := (some .int)) (by decide) rfl ?_
  intro p e s m args below meth c s₁ BB hml hv
  obtain ⟨rfl, hP, hK⟩ := hv
  have hx := BB.exec
  have hb := BB.bytes
  have hr := BB.returns
  have hts : ∀ w ∈ bg_tbl, w.before ([.ref (ad 0), .int q, .int (bd_b on)] : List Value).toArray s = true := fun w h => atoms_spec (ws := (Cond.code my_D_hold cd_D_hold 4 (some .int) :: bg_tbl)) BB.pre w (List.mem_cons_of_mem _ h)
  have hown : s.vm.findClass rn_D = some m.cls := findClass_of_methodNamed BB.named
  have hlocks := BB.notSynchronized
  have h12 := cl_12 hC
  have h160 := cl_160 hC
  have h3q := cl_3 hC
  have hM4 := cl_M4 hC
  have hM5 := cl_M5 hC
  have hS : va_S (cw_A ks ad) s.heap s.heap [] := va_S.rf
  have hl := lv_entry ([.ref (ad 0), .int q, .int (bd_b on)]) (n := 4) (Nat.le_of_ble_eq_true rfl)
  rw [lg_entry_eq]
  generalize (lg_sl ([.ref (ad 0), .int q, .int (bd_b on)]) ++ List.replicate (4 - (lg_sl ([.ref (ad 0), .int q, .int (bd_b on)])).length) Slot.unset).toArray = ls at hl ⊢
  have hl : lv_has ls 4 [(0, .ref (ad 0)), (1, .int q), (2, .int (bd_b on))] := hl
  refine lv_aload_n hx hb dd_D_hold_0 rfl (lv_at hl 0 rfl) ?_
  refine lv_iload_n hx hb dd_D_hold_1 rfl (lv_at hl 1 rfl) ?_
  refine cw_callq (k := 0) (C := rn_D) (T := ft_D) (NF := 9) (As := [.int q]) (rest := []) ⟨hx, hb, hml, hown, hts⟩ (cc_D_queueAt l D ks ad ca M X F G N O B hC hks hMB q) (bg_cwV 1 hts tw_ml_D_47 tw_im_D_queueAt tw_se_D_queueAt tw_in_D tw_co_D_queueAt rfl rfl th_D_queueAt ⟨Nat.le_of_ble_eq_true rfl, Nat.le_of_ble_eq_true rfl⟩) hK hP (hks.1 0 (by decide)) (cw_C0 ad ca _ _ _ _) rfl rfl hl.1 rfl (Nat.le_of_ble_eq_true rfl) dd_D_hold_2 ⟨Nat.zero_le _, Nat.zero_le _⟩ (fun h2 => ?_) (fun k9 h2 => ?_)
  · have hq2 := bd_map_n h2
    refine lv_astore_nN hx hb dd_D_hold_5 rfl hl (by decide) rfl (fun ls hl => ?_)
    have hl : lv_has ls 4 [(3, .null), (0, .ref (ad 0)), (1, .int q), (2, .int (bd_b on))] := hl
    refine lv_aload_nN hx hb dd_D_hold_6 rfl (lv_at hl 0 rfl) ?_
    refine lv_ifnullN (tgt := 17) hx hb dd_D_hold_7 rfl ?_
    refine lv_iconst (v := -1) hx hb dd_D_hold_17 (by decide) ?_
    have eM : cn_hold M (bd_at q (N 1 0)) on = M := by simp only [hq2]; simp [cn_hold]
    exact W.iret hx hb hr (fun tt htt hWW => ⟨⟨_, (), rfl, (by simp only [hq2]; simp [cm_hold]), by rw [htt, eM]; exact hP, va_K.moved hWW.alike hK⟩, hS.F htt⟩) hS.2.2 dd_D_hold_18
  · obtain ⟨a2, hq2, hl2, rfl, rfl⟩ := bd_map_s (by omega) h2
    refine lv_astore_n hx hb dd_D_hold_5 rfl hl (by decide) rfl (fun ls hl => ?_)
    have hl : lv_has ls 4 [(3, .ref (ad (8 + a2))), (0, .ref (ad 0)), (1, .int (nI a2)), (2, .int (bd_b on))] := hl
    refine lv_aload_n hx hb dd_D_hold_6 rfl (lv_at hl 0 rfl) ?_
    refine lv_ifnull hx hb dd_D_hold_7 ?_
    refine lv_aload_n hx hb dd_D_hold_10 rfl (lv_at hl 0 rfl) ?_
    refine cw_calli (k := 8 + a2) (C := rn_Q) (T := ft_Q) (NF := 10) (As := []) (rest := []) (v := bd_b (decide (a2 < 3))) ⟨hx, hb, hml, hown, hts⟩ (cc_Q_isRoot l D ks ad ca M X F G N O B hC hks hMB a2 hl2) (bg_cwV 0 hts tw_ml_D_51 tw_im_Q_isRoot tw_se_Q_isRoot tw_in_Q tw_co_Q_isRoot rfl rfl th_Q_isRoot ⟨Nat.le_of_ble_eq_true rfl, Nat.le_of_ble_eq_true rfl⟩) hK hP (hks.2.1 _ hl2) (cw_CQ (Nat.lt_of_lt_of_le hl2 (cl_12 hC)) ad ca _ _ _ _) rfl rfl hl.1 rfl (Nat.le_of_ble_eq_true rfl) dd_D_hold_11 ⟨Nat.zero_le _, Nat.zero_le _⟩ ?_
    refine bq_zeq (tgt := 19) hx hb dd_D_hold_14 rfl (fun h14 => ?_) (fun h14 => ?_)
    · have h14d := of_decide_eq_false h14
      refine lv_iload_n hx hb dd_D_hold_19 rfl (lv_at hl 3 rfl) ?_
      refine bq_zeq (tgt := 35) hx hb dd_D_hold_20 rfl (fun h20 => ?_) (fun h20 => ?_)
      · refine lv_iload_n hx hb dd_D_hold_35 rfl (lv_at hl 3 rfl) ?_
        refine bq_zne (tgt := 49) hx hb dd_D_hold_36 rfl (fun h36 => ?_) (fun h36 => ?_)
        · rw [h20] at h36; cases h36
        · refine lv_aload_n hx hb dd_D_hold_39 rfl (lv_at hl 0 rfl) ?_
          refine cw_get1 (k := 8 + a2) (C := rn_Q) (T := ft_Q) (NF := 10) (v := .int (nI (M (8 + a2) 3))) hx hb hts tw_fs_Q hown hK hP (hks.2.1 _ hl2) (cw_CQ (Nat.lt_of_lt_of_le hl2 (cl_12 hC)) ad ca _ _ _ _) rfl 3 (by decide) (hts _ tw_fl_D_134) rfl rfl dd_D_hold_40 ?_
          refine bq_ngt (tgt := 49) hx hb (hMB _ _) dd_D_hold_43 rfl (fun h43 => ?_) (fun h43 => ?_)
          · have h43n := Nat.ne_of_gt h43
            refine lv_aload_n hx hb dd_D_hold_49 rfl (lv_at hl 0 rfl) ?_
            refine lv_dup hx hb dd_D_hold_50 rfl ?_
            refine cw_get1 (k := 8 + a2) (C := rn_Q) (T := ft_Q) (NF := 10) (v := .int (nI (M (8 + a2) 3))) hx hb hts tw_fs_Q hown hK hP (hks.2.1 _ hl2) (cw_CQ (Nat.lt_of_lt_of_le hl2 (cl_12 hC)) ad ca _ _ _ _) rfl 3 (by decide) (hts _ tw_fl_D_134) rfl rfl dd_D_hold_51 ?_
            refine lv_iload_n hx hb dd_D_hold_54 rfl (lv_at hl 3 rfl) ?_
            refine bq_zeq (tgt := 62) hx hb dd_D_hold_55 rfl (fun h55 => ?_) (fun h55 => ?_)
            · refine lv_iconst (v := -1) hx hb dd_D_hold_62 (by decide) ?_
              refine lv_iadd hx hb dd_D_hold_63 ?_
              rw [sb_m1 (by omega)]
              refine cw_put1 (k := 8 + a2) (C := rn_Q) (T := ft_Q) (NF := 10) (v := .int (nI ((M (8 + a2) 3) - 1))) (ty := fy_Q 3) (M' := (sp_u M (8 + a2) 3 ((M (8 + a2) 3) - 1))) (X' := X) (F' := F) (G' := G) hx hb hts tw_fs_Q fy_Q fo_Q fn_Q hown hK hP (cw_D hJ ca M X F G) hS (hks.2.1 _ hl2) (cw_CQ (Nat.lt_of_lt_of_le hl2 (cl_12 hC)) ad ca _ _ _ _) rfl 3 (by decide) (hts _ tw_fl_D_134) rfl rfl (fo_Q 3 (by decide)) rfl rfl (Nat.le_of_ble_eq_true rfl) (fun _ hq => sp_u_f _ _ _ hq) (fun _ _ => rfl) (fun _ _ => rfl) (fun _ _ => rfl) (by rw [sp_u_k M (8 + a2) 3 ((M (8 + a2) 3) - 1)]; exact (cw_CQ (Nat.lt_of_lt_of_le hl2 (cl_12 hC)) ad ca _ _ _ _)) dd_D_hold_64 (fun H locs hP hS => ?_)
              refine lv_aload_n hx hb dd_D_hold_67 rfl (lv_at hl 0 rfl) ?_
              refine cw_get1 (k := 8 + a2) (C := rn_Q) (T := ft_Q) (NF := 10) (v := .int (nI ((sp_u M (8 + a2) 3 ((M (8 + a2) 3) - 1)) (8 + a2) 3))) hx hb hts tw_fs_Q hown hK hP (hks.2.1 _ hl2) (cw_CQ (Nat.lt_of_lt_of_le hl2 (cl_12 hC)) ad ca _ _ _ _) rfl 3 (by decide) (hts _ tw_fl_D_134) rfl rfl dd_D_hold_68 ?_
              rw [show (sp_u M (8 + a2) 3 ((M (8 + a2) 3) - 1)) (8 + a2) 3 = (M (8 + a2) 3) - 1 from by rw [sp_u_app, if_pos ⟨rfl, rfl⟩]]
              have eM : cn_hold M (bd_at (nI a2) (N 1 0)) on = sp_u M (8 + a2) 3 ((M (8 + a2) 3) - 1) := by simp only [hq2]; simp [cn_hold, h14d, h20, h36, h43, Nat.not_le.mpr h43, h43n, h55]
              exact W.iret hx hb hr (fun tt htt hWW => ⟨⟨_, (), rfl, (by simp only [hq2]; simp [cm_hold, h14d, h20, h36, h43, Nat.not_le.mpr h43, h43n, h55]), by rw [htt, eM]; exact hP, va_K.moved hWW.alike hK⟩, hS.F htt⟩) hS.2.2 dd_D_hold_71
            · rw [h20] at h55; cases h55
          · refine lv_bipush (v := -8) hx hb dd_D_hold_46 (by decide) ?_
            have eM : cn_hold M (bd_at (nI a2) (N 1 0)) on = M := by simp only [hq2]; simp [cn_hold, h14d, h20, h36, h43]
            exact W.iret hx hb hr (fun tt htt hWW => ⟨⟨_, (), rfl, (by simp only [hq2]; simp [cm_hold, h14d, h20, h36, h43]), by rw [htt, eM]; exact hP, va_K.moved hWW.alike hK⟩, hS.F htt⟩) hS.2.2 dd_D_hold_48
      · refine lv_aload_n hx hb dd_D_hold_23 rfl (lv_at hl 0 rfl) ?_
        refine cw_get1 (k := 8 + a2) (C := rn_Q) (T := ft_Q) (NF := 10) (v := .int (nI (M (8 + a2) 3))) hx hb hts tw_fs_Q hown hK hP (hks.2.1 _ hl2) (cw_CQ (Nat.lt_of_lt_of_le hl2 (cl_12 hC)) ad ca _ _ _ _) rfl 3 (by decide) (hts _ tw_fl_D_134) rfl rfl dd_D_hold_24 ?_
        refine lv_bipush (v := nI 100) hx hb dd_D_hold_27 (by decide) ?_
        refine bq_lt (tgt := 35) hx hb (hMB _ _) (by decide) dd_D_hold_29 rfl (fun h29 => ?_) (fun h29 => ?_)
        · refine lv_iload_n hx hb dd_D_hold_35 rfl (lv_at hl 3 rfl) ?_
          refine bq_zne (tgt := 49) hx hb dd_D_hold_36 rfl (fun h36 => ?_) (fun h36 => ?_)
          · refine lv_aload_n hx hb dd_D_hold_49 rfl (lv_at hl 0 rfl) ?_
            refine lv_dup hx hb dd_D_hold_50 rfl ?_
            refine cw_get1 (k := 8 + a2) (C := rn_Q) (T := ft_Q) (NF := 10) (v := .int (nI (M (8 + a2) 3))) hx hb hts tw_fs_Q hown hK hP (hks.2.1 _ hl2) (cw_CQ (Nat.lt_of_lt_of_le hl2 (cl_12 hC)) ad ca _ _ _ _) rfl 3 (by decide) (hts _ tw_fl_D_134) rfl rfl dd_D_hold_51 ?_
            refine lv_iload_n hx hb dd_D_hold_54 rfl (lv_at hl 3 rfl) ?_
            refine bq_zeq (tgt := 62) hx hb dd_D_hold_55 rfl (fun h55 => ?_) (fun h55 => ?_)
            · rw [h20] at h55; cases h55
            · refine lv_iconst (v := nI 1) hx hb dd_D_hold_58 (by decide) ?_
              refine lv_goto (tgt := 63) hx hb dd_D_hold_59 rfl ?_
              refine lv_iadd hx hb dd_D_hold_63 ?_
              rw [nI_add]
              refine cw_put1 (k := 8 + a2) (C := rn_Q) (T := ft_Q) (NF := 10) (v := .int (nI ((M (8 + a2) 3) + 1))) (ty := fy_Q 3) (M' := (sp_u M (8 + a2) 3 ((M (8 + a2) 3) + 1))) (X' := X) (F' := F) (G' := G) hx hb hts tw_fs_Q fy_Q fo_Q fn_Q hown hK hP (cw_D hJ ca M X F G) hS (hks.2.1 _ hl2) (cw_CQ (Nat.lt_of_lt_of_le hl2 (cl_12 hC)) ad ca _ _ _ _) rfl 3 (by decide) (hts _ tw_fl_D_134) rfl rfl (fo_Q 3 (by decide)) rfl rfl (Nat.le_of_ble_eq_true rfl) (fun _ hq => sp_u_f _ _ _ hq) (fun _ _ => rfl) (fun _ _ => rfl) (fun _ _ => rfl) (by rw [sp_u_k M (8 + a2) 3 ((M (8 + a2) 3) + 1)]; exact (cw_CQ (Nat.lt_of_lt_of_le hl2 (cl_12 hC)) ad ca _ _ _ _)) dd_D_hold_64 (fun H locs hP hS => ?_)
              refine lv_aload_n hx hb dd_D_hold_67 rfl (lv_at hl 0 rfl) ?_
              refine cw_get1 (k := 8 + a2) (C := rn_Q) (T := ft_Q) (NF := 10) (v := .int (nI ((sp_u M (8 + a2) 3 ((M (8 + a2) 3) + 1)) (8 + a2) 3))) hx hb hts tw_fs_Q hown hK hP (hks.2.1 _ hl2) (cw_CQ (Nat.lt_of_lt_of_le hl2 (cl_12 hC)) ad ca _ _ _ _) rfl 3 (by decide) (hts _ tw_fl_D_134) rfl rfl dd_D_hold_68 ?_
              rw [show (sp_u M (8 + a2) 3 ((M (8 + a2) 3) + 1)) (8 + a2) 3 = (M (8 + a2) 3) + 1 from by rw [sp_u_app, if_pos ⟨rfl, rfl⟩]]
              have eM : cn_hold M (bd_at (nI a2) (N 1 0)) on = sp_u M (8 + a2) 3 ((M (8 + a2) 3) + 1) := by simp only [hq2]; simp [cn_hold, h14d, h20, h29, Nat.not_le.mpr h29, h36, h55]
              exact W.iret hx hb hr (fun tt htt hWW => ⟨⟨_, (), rfl, (by simp only [hq2]; simp [cm_hold, h14d, h20, h29, Nat.not_le.mpr h29, h36, h55]), by rw [htt, eM]; exact hP, va_K.moved hWW.alike hK⟩, hS.F htt⟩) hS.2.2 dd_D_hold_71
          · rw [h20] at h36; cases h36
        · refine lv_bipush (v := -4) hx hb dd_D_hold_32 (by decide) ?_
          have eM : cn_hold M (bd_at (nI a2) (N 1 0)) on = M := by simp only [hq2]; simp [cn_hold, h14d, h20, h29, Nat.not_lt.mpr h29]
          exact W.iret hx hb hr (fun tt htt hWW => ⟨⟨_, (), rfl, (by simp only [hq2]; simp [cm_hold, h14d, h20, h29, Nat.not_lt.mpr h29]), by rw [htt, eM]; exact hP, va_K.moved hWW.alike hK⟩, hS.F htt⟩) hS.2.2 dd_D_hold_34
    · have h14d := of_decide_eq_true h14
      refine lv_iconst (v := -1) hx hb dd_D_hold_17 (by decide) ?_
      have eM : cn_hold M (bd_at (nI a2) (N 1 0)) on = M := by simp only [hq2]; simp [cn_hold, h14d]
      exact W.iret hx hb hr (fun tt htt hWW => ⟨⟨_, (), rfl, (by simp only [hq2]; simp [cm_hold, h14d]), by rw [htt, eM]; exact hP, va_K.moved hWW.alike hK⟩, hS.F htt⟩) hS.2.2 dd_D_hold_18

set_option maxHeartbeats 4000000 in
set_option maxRecDepth 100000 in
theorem cc_D_finish (l : Launch) (D : va_G) (ks : List Nat) (ad : Nat → Nat) (ca : Nat → ClassId) (hJ : cw_J ks ad) (M : sp_N) (X : sp_B) (F : sp_O) (G : sp_Z) (N : sp_N) (O : sp_O) (B : sp_B) (hC : cl_S M X F N O B) (hks : cl_k ks N) (hMB : cl_B M) (q : Int32) (hpre : ∀ a, a < N 6 0 → M (20 + a) 3 = 3 → (O 9 a = none → 1 ≤ M 0 6) ∧ (∀ j, j < N 1 0 → sp_l N (N 7 a) j = true → 1 ≤ M (8 + j) 7) ∧ (∀ g, O 10 a = some g → 1 ≤ M (4 + g) 1)) : Met l my_D_finish (Cond.code my_D_finish cd_D_finish 3 (some .boolean) :: bg_tbl) ({ frames := 4, cells := 0, slots := 0, locals := 86 }) (va_Pc [.ref (ad 0), .int q] (cw_U D ks ad ca M X F G)) (va_Qi (fun r (_ : Unit) => r = bd_b (cm_finish M (bd_at q (N 6 0)))) (fun _ uu => cw_U D ks ad ca ((cn_finish M F N (bd_at q (N 6 0))).1) (cx_finish M X N (bd_at q (N 6 0))) ((cn_finish M F N (bd_at q (N 6 0))).2) G uu) (cw_A ks ad)) 0 0 (cw_A ks ad) := by
  refine Met.ofW (cc := cd_D_finish) (maxL := 3) (ret := (some .boolean)) (by decide) rfl ?_
  intro p e s m args below meth c s₁ BB hml hv
  obtain ⟨rfl, hP, hK⟩ := hv
  have hx := BB.exec
  have hb := BB.bytes
  have hr := BB.returns
  have hts : ∀ w ∈ bg_tbl, w.before ([.ref (ad 0), .int q] : List Value).toArray s = true := fun w h => atoms_spec (ws := (Cond.code my_D_finish cd_D_finish 3 (some .boolean) :: bg_tbl)) BB.pre w (List.mem_cons_of_mem _ h)
  have hown : s.vm.findClass rn_D = some m.cls := findClass_of_methodNamed BB.named
  have hlocks := BB.notSynchronized
  have h12 := cl_12 hC
  have h160 := cl_160 hC
  have h3q := cl_3 hC
  have hM4 := cl_M4 hC
  have hM5 := cl_M5 hC
  have hS : va_S (cw_A ks ad) s.heap s.heap [] := va_S.rf
  have hl := lv_entry ([.ref (ad 0), .int q]) (n := 3) (Nat.le_of_ble_eq_true rfl)
  rw [lg_entry_eq]
  generalize (lg_sl ([.ref (ad 0), .int q]) ++ List.replicate (3 - (lg_sl ([.ref (ad 0), .int q])).length) Slot.unset).toArray = ls at hl ⊢
  have hl : lv_has ls 3 [(0, .ref (ad 0)), (1, .int q)] := hl
  refine lv_aload_n hx hb dd_D_finish_0 rfl (lv_at hl 0 rfl) ?_
  refine lv_iload_n hx hb dd_D_finish_1 rfl (lv_at hl 1 rfl) ?_
  refine cw_callq (k := 0) (C := rn_D) (T := ft_D) (NF := 9) (As := [.int q]) (rest := []) ⟨hx, hb, hml, hown, hts⟩ (cc_D_blockAt l D ks ad ca M X F G N O B hC hks hMB q) (bg_cwV 1 hts tw_ml_D_102 tw_im_D_blockAt tw_se_D_blockAt tw_in_D tw_co_D_blockAt rfl rfl th_D_blockAt ⟨Nat.le_of_ble_eq_true rfl, Nat.le_of_ble_eq_true rfl⟩) hK hP (hks.1 0 (by decide)) (cw_C0 ad ca _ _ _ _) rfl rfl hl.1 rfl (Nat.le_of_ble_eq_true rfl) dd_D_finish_2 ⟨Nat.zero_le _, Nat.zero_le _⟩ (fun h2 => ?_) (fun k9 h2 => ?_)
  · have hq2 := bd_map_n h2
    refine lv_astore_nN hx hb dd_D_finish_5 rfl hl (by decide) rfl (fun ls hl => ?_)
    have hl : lv_has ls 3 [(2, .null), (0, .ref (ad 0)), (1, .int q)] := hl
    refine lv_aload_nN hx hb dd_D_finish_6 rfl (lv_at hl 0 rfl) ?_
    refine lv_ifnullN (tgt := 18) hx hb dd_D_finish_7 rfl ?_
    refine lv_iconst (v := bd_b false) hx hb dd_D_finish_18 (by decide) ?_
    have eM : (cn_finish M F N (bd_at q (N 6 0))).1 = M := by simp only [hq2]; simp [cn_finish]
    have eX : cx_finish M X N (bd_at q (N 6 0)) = X := by simp only [hq2]; simp [cx_finish]
    have eF : (cn_finish M F N (bd_at q (N 6 0))).2 = F := by simp only [hq2]; simp [cn_finish]
    exact W.zret (ty := .boolean) hx hb hr (bd_b_nar _) (fun tt htt hWW => ⟨⟨_, (), rfl, (by simp only [hq2]; simp [cm_finish]), by rw [htt, eM, eX, eF]; exact hP, va_K.moved hWW.alike hK⟩, hS.F htt⟩) hS.2.2 dd_D_finish_19
  · obtain ⟨a2, hq2, hl2, rfl, rfl⟩ := bd_map_s (by omega) h2
    refine lv_astore_n hx hb dd_D_finish_5 rfl hl (by decide) rfl (fun ls hl => ?_)
    have hl : lv_has ls 3 [(2, .ref (ad (20 + a2))), (0, .ref (ad 0)), (1, .int (nI a2))] := hl
    refine lv_aload_n hx hb dd_D_finish_6 rfl (lv_at hl 0 rfl) ?_
    refine lv_ifnull hx hb dd_D_finish_7 ?_
    refine lv_aload_n hx hb dd_D_finish_10 rfl (lv_at hl 0 rfl) ?_
    refine cw_get1 (k := 20 + a2) (C := rn_B) (T := ft_B) (NF := 11) (v := .int (nI (M (20 + a2) 3))) hx hb hts tw_fs_B hown hK hP (hks.2.2 _ hl2) (cw_CB _ ad ca _ _ _ _) rfl 3 (by decide) (hts _ tw_fl_D_91) rfl rfl dd_D_finish_11 ?_
    refine lv_iconst (v := nI 3) hx hb dd_D_finish_14 (by decide) ?_
    refine bq_eq (tgt := 20) hx hb (hMB _ _) (by decide) dd_D_finish_15 rfl (fun h15 => ?_) (fun h15 => ?_)
    · have hpre := hpre a2 hl2 h15
      refine lv_aload_n hx hb dd_D_finish_20 rfl (lv_at hl 1 rfl) ?_
      refine lv_aload_n hx hb dd_D_finish_21 rfl (lv_at hl 0 rfl) ?_
      refine cw_callwv (k := 0) (C := rn_D) (T := ft_D) (NF := 9) (As := [.ref (ad (20 + a2))]) (rest := []) ⟨hx, hb, hml, hown, hts⟩ (cc_D_withdraw l D ks ad ca hJ M X F G N O B hC hks a2 hl2 hpre.1 hpre.2.1) (bg_cwV 1 hts tw_ml_D_154 tw_im_D_withdraw tw_se_D_withdraw tw_in_D tw_co_D_withdraw rfl rfl th_D_withdraw ⟨Nat.le_of_ble_eq_true rfl, Nat.le_of_ble_eq_true rfl⟩) hK hP hS (hks.1 0 (by decide)) (cw_C0 ad ca _ _ _ _) rfl rfl hl.1 rfl (Nat.le_of_ble_eq_true rfl) dd_D_finish_22 ⟨Nat.zero_le _, Nat.zero_le _⟩ (fun H locs hP hS => ?_)
      refine lv_aload_n hx hb dd_D_finish_25 rfl (lv_at hl 1 rfl) ?_
      refine lv_aload_n hx hb dd_D_finish_26 rfl (lv_at hl 0 rfl) ?_
      refine lv_iconst (v := nI 5) hx hb dd_D_finish_27 (by decide) ?_
      refine cw_callwv (k := 0) (C := rn_D) (T := ft_D) (NF := 9) (As := [.ref (ad (20 + a2)), .int (nI 5)]) (rest := []) ⟨hx, hb, hml, hown, hts⟩ (cc_D_conclude l D ks ad ca hJ (cs_wM M F N a2) (cs_wX X N a2) F G N O B (cl_S_w hC a2) hks (cl_B_w hMB F N a2) a2 5 hl2 (by decide) (fun g hg => by rw [cs_wM_g _ _ _ _ (hC.2.2.2.2.1 _ g hl2 hg)]; exact hpre.2.2 g hg)) (bg_cwV 2 hts tw_ml_D_150 tw_im_D_conclude tw_se_D_conclude tw_in_D tw_co_D_conclude rfl rfl th_D_conclude ⟨Nat.le_of_ble_eq_true rfl, Nat.le_of_ble_eq_true rfl⟩) hK hP hS (hks.1 0 (by decide)) (cw_C0 ad ca _ _ _ _) rfl rfl hl.1 rfl (Nat.le_of_ble_eq_true rfl) dd_D_finish_28 ⟨Nat.zero_le _, Nat.zero_le _⟩ (fun H locs hP hS => ?_)
      refine lv_iconst (v := bd_b true) hx hb dd_D_finish_31 (by decide) ?_
      have eM : (cn_finish M F N (bd_at (nI a2) (N 6 0))).1 = (cs_cc (cs_wM M F N a2) F N a2 5).1 := by simp only [hq2]; simp [cn_finish, h15]
      have eX : cx_finish M X N (bd_at (nI a2) (N 6 0)) = cs_wX X N a2 := by simp only [hq2]; simp [cx_finish, h15]
      have eF : (cn_finish M F N (bd_at (nI a2) (N 6 0))).2 = (cs_cc (cs_wM M F N a2) F N a2 5).2 := by simp only [hq2]; simp [cn_finish, h15]
      exact W.zret (ty := .boolean) hx hb hr (bd_b_nar _) (fun tt htt hWW => ⟨⟨_, (), rfl, (by simp only [hq2]; simp [cm_finish, h15]), by rw [htt, eM, eX, eF]; exact hP, va_K.moved hWW.alike hK⟩, hS.F htt⟩) hS.2.2 dd_D_finish_32
    · refine lv_iconst (v := bd_b false) hx hb dd_D_finish_18 (by decide) ?_
      have eM : (cn_finish M F N (bd_at (nI a2) (N 6 0))).1 = M := by simp only [hq2]; simp [cn_finish, h15]
      have eX : cx_finish M X N (bd_at (nI a2) (N 6 0)) = X := by simp only [hq2]; simp [cx_finish, h15]
      have eF : (cn_finish M F N (bd_at (nI a2) (N 6 0))).2 = F := by simp only [hq2]; simp [cn_finish, h15]
      exact W.zret (ty := .boolean) hx hb hr (bd_b_nar _) (fun tt htt hWW => ⟨⟨_, (), rfl, (by simp only [hq2]; simp [cm_finish, h15]), by rw [htt, eM, eX, eF]; exact hP, va_K.moved hWW.alike hK⟩, hS.F htt⟩) hS.2.2 dd_D_finish_19

