/-! Part 25: the class: wouldDeadlock, deadlineIn, now. By wip/gen/gen_cls3.py. -/
theorem cs_ic_n (N : sp_N) (O : sp_O) (B : sp_B) (y : Nat) (sh : Bool) (n : Nat) : cs_ic N O B y sh n none = false := by cases n <;> rfl
set_option maxHeartbeats 4000000 in
set_option maxRecDepth 100000 in
theorem cc_D_wouldDeadlock (l : Launch) (D : va_G) (ks : List Nat) (ad : Nat → Nat) (ca : Nat → ClassId) (M : sp_N) (X : sp_B) (F : sp_O) (G : sp_Z) (N : sp_N) (O : sp_O) (B : sp_B) (hC : cl_S M X F N O B) (hks : cl_k ks N) (hMB : cl_B M) (hJ : cw_J ks ad) (c9 j : Nat) (bar : Bool) (hc : c9 < N 6 0) (hj : j < N 1 0) : Met l my_D_wouldDeadlock (Cond.code my_D_wouldDeadlock cd_D_wouldDeadlock 7 (some .boolean) :: bg_tbl) ({ frames := 1, cells := 0, slots := 0, locals := 22 }) (va_Pc [.ref (ad (20 + c9)), .ref (ad (8 + j)), .int (bd_b bar)] (cw_U D ks ad ca M X F G)) (vp_Si (fun r => r = bd_b (cs_dk M N O B c9 j bar))) 0 0 (fun _ => False) := by
  refine Met.ofW (cc := cd_D_wouldDeadlock) (maxL := 7) (ret := (some .boolean)) (by decide) rfl ?_
  intro p e s m args below meth c s₁ BB hml hv
  obtain ⟨rfl, hP, hK⟩ := hv
  have hx := BB.exec
  have hb := BB.bytes
  have hr := BB.returns
  have hts : ∀ w ∈ bg_tbl, w.before ([.ref (ad (20 + c9)), .ref (ad (8 + j)), .int (bd_b bar)] : List Value).toArray s = true := fun w h => atoms_spec (ws := (Cond.code my_D_wouldDeadlock cd_D_wouldDeadlock 7 (some .boolean) :: bg_tbl)) BB.pre w (List.mem_cons_of_mem _ h)
  have hown : s.vm.findClass rn_D = some m.cls := findClass_of_methodNamed BB.named
  have hlocks := BB.notSynchronized
  have h12 := cl_12 hC
  have h160 := cl_160 hC
  have h3q := cl_3 hC
  have hM4 := cl_M4 hC
  have hM5 := cl_M5 hC
  have hl := lv_entry ([.ref (ad (20 + c9)), .ref (ad (8 + j)), .int (bd_b bar)]) (n := 7) (Nat.le_of_ble_eq_true rfl)
  rw [lg_entry_eq]
  generalize (lg_sl ([.ref (ad (20 + c9)), .ref (ad (8 + j)), .int (bd_b bar)]) ++ List.replicate (7 - (lg_sl ([.ref (ad (20 + c9)), .ref (ad (8 + j)), .int (bd_b bar)])).length) Slot.unset).toArray = ls at hl ⊢
  have hl : lv_has ls 7 [(0, .ref (ad (20 + c9))), (1, .ref (ad (8 + j))), (2, .int (bd_b bar))] := hl
  have lp : ∀ y, y < N 1 0 → ∀  (ls : Array Slot), (sp_a (fun x => sp_l N y x && cs_dp M N O B c9 j bar x) (N 1 0) = cs_dk M N O B c9 j bar) →  lv_has ls 7 [(0, .ref (ad (20 + c9))), (1, .ref (ad (8 + j))), (2, .int (bd_b bar)), (3, .ref (ad (8 + y)))] → W p l e (headSpec (Cond.code my_D_wouldDeadlock cd_D_wouldDeadlock 7 (some .boolean) :: bg_tbl) ({ frames := 1, cells := 0, slots := 0, locals := 22 })).room s m ([.ref (ad (20 + c9)), .ref (ad (8 + j)), .int (bd_b bar)] : List Value).toArray below meth c s.heap [] 0 0 (MQ below (vp_Si (fun r => r = bd_b (cs_dk M N O B c9 j bar))) ([.ref (ad (20 + c9)), .ref (ad (8 + j)), .int (bd_b bar)] : List Value).toArray s 0 0 (fun _ => False)) (F0 m 2 ls []) := by
    refine sp_ind (cl_tr hC) (fun y hj3  ls he hl => ?_) (fun y hj3 hy ih  ls he hl => ?_)
    · have hy : y < N 1 0 := by omega
      refine lv_aload_n hx hb dd_D_wouldDeadlock_2 rfl (lv_at hl 3 rfl) ?_
      refine lv_ifnull hx hb dd_D_wouldDeadlock_3 ?_
      refine lv_aload_n hx hb dd_D_wouldDeadlock_6 rfl (lv_at hl 3 rfl) ?_
      refine cw_calli (k := 8 + y) (C := rn_Q) (T := ft_Q) (NF := 10) (As := []) (rest := []) (v := bd_b (decide (y < 3))) ⟨hx, hb, hml, hown, hts⟩ (cc_Q_isRoot l D ks ad ca M X F G N O B hC hks hMB y hy) (bg_cwV 0 hts tw_ml_D_51 tw_im_Q_isRoot tw_se_Q_isRoot tw_in_Q tw_co_Q_isRoot rfl rfl th_Q_isRoot ⟨Nat.le_of_ble_eq_true rfl, Nat.le_of_ble_eq_true rfl⟩) hK hP (hks.2.1 _ hy) (cw_CQ (Nat.lt_of_lt_of_le hy (cl_12 hC)) ad ca _ _ _ _) rfl rfl hl.1 rfl (Nat.le_of_ble_eq_true rfl) dd_D_wouldDeadlock_7 ⟨Nat.zero_le _, Nat.zero_le _⟩ ?_
      refine bq_zne (tgt := 111) hx hb dd_D_wouldDeadlock_10 rfl (fun h10 => ?_) (fun h10 => ?_)
      · refine lv_iconst (v := bd_b false) hx hb dd_D_wouldDeadlock_111 (by decide) ?_
        exact W.zret (ty := .boolean) hx hb hr (bd_b_nar _) (fun tt htt hWW => ⟨_, rfl, (by rw [← he, sp_any (cl_tr hC) _ hy, show cs_dp M N O B c9 j bar y = false from by rw [cs_dp, decide_eq_false (by omega)]; rfl, decide_eq_false (by omega)]; rfl), htt⟩) (fun _ h => by cases h) dd_D_wouldDeadlock_112
      · rw [decide_eq_true hj3] at h10; cases h10
    · have hyl := cl_tl hC hy hj3
      refine lv_aload_n hx hb dd_D_wouldDeadlock_2 rfl (lv_at hl 3 rfl) ?_
      refine lv_ifnull hx hb dd_D_wouldDeadlock_3 ?_
      refine lv_aload_n hx hb dd_D_wouldDeadlock_6 rfl (lv_at hl 3 rfl) ?_
      refine cw_calli (k := 8 + y) (C := rn_Q) (T := ft_Q) (NF := 10) (As := []) (rest := []) (v := bd_b (decide (y < 3))) ⟨hx, hb, hml, hown, hts⟩ (cc_Q_isRoot l D ks ad ca M X F G N O B hC hks hMB y hy) (bg_cwV 0 hts tw_ml_D_51 tw_im_Q_isRoot tw_se_Q_isRoot tw_in_Q tw_co_Q_isRoot rfl rfl th_Q_isRoot ⟨Nat.le_of_ble_eq_true rfl, Nat.le_of_ble_eq_true rfl⟩) hK hP (hks.2.1 _ hy) (cw_CQ (Nat.lt_of_lt_of_le hy (cl_12 hC)) ad ca _ _ _ _) rfl rfl hl.1 rfl (Nat.le_of_ble_eq_true rfl) dd_D_wouldDeadlock_7 ⟨Nat.zero_le _, Nat.zero_le _⟩ ?_
      refine bq_zne (tgt := 111) hx hb dd_D_wouldDeadlock_10 rfl (fun h10 => ?_) (fun h10 => ?_)
      · rw [decide_eq_false (by omega)] at h10; cases h10
      · have lq : ∀ (n : Nat) (cu : Option Nat) (sh : Bool) (ls : Array Slot), (∀ z, cu = some z → z < n ∧ z < N 6 0) → (sh = cs_sh M j bar y) → (cs_ic N O B y sh n cu = cs_ic N O B y (cs_sh M j bar y) 160 (some c9)) → lv_has ls 7 [(0, .ref (ad (20 + c9))), (1, .ref (ad (8 + j))), (2, .int (bd_b bar)), (3, .ref (ad (8 + y))), (4, .int (bd_b sh)), (5, va_rf (cu.map (fun q => ad (20 + q))))] → W p l e (headSpec (Cond.code my_D_wouldDeadlock cd_D_wouldDeadlock 7 (some .boolean) :: bg_tbl) ({ frames := 1, cells := 0, slots := 0, locals := 22 })).room s m ([.ref (ad (20 + c9)), .ref (ad (8 + j)), .int (bd_b bar)] : List Value).toArray below meth c s.heap [] 0 0 (MQ below (vp_Si (fun r => r = bd_b (cs_dk M N O B c9 j bar))) ([.ref (ad (20 + c9)), .ref (ad (8 + j)), .int (bd_b bar)] : List Value).toArray s 0 0 (fun _ => False)) (F0 m 40 ls []) := by
          intro n
          induction n with
          | zero =>
            intro cu sh ls hcu hsh hi hl
            cases cu with
            | none =>
              have hl : lv_has ls 7 [(0, .ref (ad (20 + c9))), (1, .ref (ad (8 + j))), (2, .int (bd_b bar)), (3, .ref (ad (8 + y))), (4, .int (bd_b sh)), (5, .null)] := hl
              refine lv_aloadN hx hb dd_D_wouldDeadlock_40 (lv_at hl 5 rfl) ?_
              refine lv_ifnullN (tgt := 103) hx hb dd_D_wouldDeadlock_42 rfl ?_
              refine lv_aload_n hx hb dd_D_wouldDeadlock_103 rfl (lv_at hl 3 rfl) ?_
              refine cw_getk (k := 8 + y) (C := rn_Q) (T := ft_Q) (NF := 10) hx hb hts tw_fs_Q hown hK hP (hks.2.1 _ hy) (cw_CQ (Nat.lt_of_lt_of_le hy (cl_12 hC)) ad ca _ _ _ _) rfl 2 (by decide) (hts _ tw_fl_D_62) rfl rfl (cl_t1 hC hy hj3) dd_D_wouldDeadlock_104 ?_
              refine lv_astore_n hx hb dd_D_wouldDeadlock_107 rfl hl (by decide) rfl (fun ls hl => ?_)
              have hl : lv_has ls 7 [(3, .ref (ad (8 + N 2 y))), (0, .ref (ad (20 + c9))), (1, .ref (ad (8 + j))), (2, .int (bd_b bar)), (4, .int (bd_b sh)), (5, .null)] := hl
              refine lv_goto (tgt := 2) hx hb dd_D_wouldDeadlock_108 rfl ?_
              exact ih ls (by rw [← he, sp_any (cl_tr hC) _ hy, show cs_dp M N O B c9 j bar y = false from by rw [cs_dp, ← hi, cs_ic_n, Bool.and_false], decide_eq_true hj3]; rfl) (lv_sub hl [1, 2, 3, 0] rfl)
            | some cz =>
              exact absurd (hcu cz rfl).1 (by omega)
          | succ n ih2 =>
            intro cu sh ls hcu hsh hi hl
            cases cu with
            | none =>
              have hl : lv_has ls 7 [(0, .ref (ad (20 + c9))), (1, .ref (ad (8 + j))), (2, .int (bd_b bar)), (3, .ref (ad (8 + y))), (4, .int (bd_b sh)), (5, .null)] := hl
              refine lv_aloadN hx hb dd_D_wouldDeadlock_40 (lv_at hl 5 rfl) ?_
              refine lv_ifnullN (tgt := 103) hx hb dd_D_wouldDeadlock_42 rfl ?_
              refine lv_aload_n hx hb dd_D_wouldDeadlock_103 rfl (lv_at hl 3 rfl) ?_
              refine cw_getk (k := 8 + y) (C := rn_Q) (T := ft_Q) (NF := 10) hx hb hts tw_fs_Q hown hK hP (hks.2.1 _ hy) (cw_CQ (Nat.lt_of_lt_of_le hy (cl_12 hC)) ad ca _ _ _ _) rfl 2 (by decide) (hts _ tw_fl_D_62) rfl rfl (cl_t1 hC hy hj3) dd_D_wouldDeadlock_104 ?_
              refine lv_astore_n hx hb dd_D_wouldDeadlock_107 rfl hl (by decide) rfl (fun ls hl => ?_)
              have hl : lv_has ls 7 [(3, .ref (ad (8 + N 2 y))), (0, .ref (ad (20 + c9))), (1, .ref (ad (8 + j))), (2, .int (bd_b bar)), (4, .int (bd_b sh)), (5, .null)] := hl
              refine lv_goto (tgt := 2) hx hb dd_D_wouldDeadlock_108 rfl ?_
              exact ih ls (by rw [← he, sp_any (cl_tr hC) _ hy, show cs_dp M N O B c9 j bar y = false from by rw [cs_dp, ← hi, cs_ic_n, Bool.and_false], decide_eq_true hj3]; rfl) (lv_sub hl [1, 2, 3, 0] rfl)
            | some cz =>
              have hl : lv_has ls 7 [(0, .ref (ad (20 + c9))), (1, .ref (ad (8 + j))), (2, .int (bd_b bar)), (3, .ref (ad (8 + y))), (4, .int (bd_b sh)), (5, .ref (ad (20 + cz)))] := hl
              have hcz := hcu cz rfl
              refine lv_aload hx hb dd_D_wouldDeadlock_40 (lv_at hl 5 rfl) ?_
              refine lv_ifnull hx hb dd_D_wouldDeadlock_42 ?_
              refine lv_aload hx hb dd_D_wouldDeadlock_45 (lv_at hl 5 rfl) ?_
              refine cw_get1 (k := 20 + cz) (C := rn_B) (T := ft_B) (NF := 11) (v := .int (bd_b (X (20 + cz) 2))) hx hb hts tw_fs_B hown hK hP (hks.2.2 _ hcz.2) (cw_CB _ ad ca _ _ _ _) rfl 2 (by decide) (hts _ tw_fl_D_201) rfl rfl dd_D_wouldDeadlock_47 ?_
              rw [cl_x hC hcz.2]
              refine bq_zeq (tgt := 66) hx hb dd_D_wouldDeadlock_50 rfl (fun h50 => ?_) (fun h50 => ?_)
              · refine lv_iconst (v := bd_b false) hx hb dd_D_wouldDeadlock_66 (by decide) ?_
                refine lv_istore hx hb dd_D_wouldDeadlock_67 hl (by decide) rfl (fun ls hl => ?_)
                have hl : lv_has ls 7 [(6, .int (bd_b false)), (0, .ref (ad (20 + c9))), (1, .ref (ad (8 + j))), (2, .int (bd_b bar)), (3, .ref (ad (8 + y))), (4, .int (bd_b sh)), (5, .ref (ad (20 + cz)))] := hl
                refine lv_iload hx hb dd_D_wouldDeadlock_69 (lv_at hl 5 rfl) ?_
                refine bq_zne (tgt := 79) hx hb dd_D_wouldDeadlock_71 rfl (fun h71 => ?_) (fun h71 => ?_)
                · refine lv_aload hx hb dd_D_wouldDeadlock_79 (lv_at hl 6 rfl) ?_
                  refine cw_getk (k := 20 + cz) (C := rn_B) (T := ft_B) (NF := 11) hx hb hts tw_fs_B hown hK hP (hks.2.2 _ hcz.2) (cw_CB _ ad ca _ _ _ _) rfl 1 (by decide) (hts _ tw_fl_D_141) rfl rfl (cl_h hC hcz.2) dd_D_wouldDeadlock_81 ?_
                  refine lv_aload_n hx hb dd_D_wouldDeadlock_84 rfl (lv_at hl 4 rfl) ?_
                  refine cw_calli (k := 8 + N 7 cz) (C := rn_Q) (T := ft_Q) (NF := 10) (As := [.ref (ad (8 + y))]) (rest := []) (v := bd_b (sp_l N (N 7 cz) y)) ⟨hx, hb, hml, hown, hts⟩ (cc_Q_leadsTo l D ks ad ca M X F G N O B hC hks hMB hJ (N 7 cz) y (cl_hl hC hcz.2) hy) (bg_cwV 1 hts tw_ml_D_55 tw_im_Q_leadsTo tw_se_Q_leadsTo tw_in_Q tw_co_Q_leadsTo rfl rfl th_Q_leadsTo ⟨Nat.le_of_ble_eq_true rfl, Nat.le_of_ble_eq_true rfl⟩) hK hP (hks.2.1 _ (cl_hl hC hcz.2)) (cw_CQ (Nat.lt_of_lt_of_le (cl_hl hC hcz.2) (cl_12 hC)) ad ca _ _ _ _) rfl rfl hl.1 rfl (Nat.le_of_ble_eq_true rfl) dd_D_wouldDeadlock_85 ⟨Nat.zero_le _, Nat.zero_le _⟩ ?_
                  refine bq_zeq (tgt := 93) hx hb dd_D_wouldDeadlock_88 rfl (fun h88 => ?_) (fun h88 => ?_)
                  · refine lv_aload hx hb dd_D_wouldDeadlock_93 (lv_at hl 6 rfl) ?_
                    refine cw_getr (k := 20 + cz) (C := rn_B) (T := ft_B) (NF := 11) hx hb hts tw_fs_B hown hK hP (hks.2.2 _ hcz.2) (cw_CB _ ad ca _ _ _ _) rfl 5 (by decide) (hts _ tw_fl_D_110) rfl rfl dd_D_wouldDeadlock_95 (fun h95 => ?_) (fun k9 h95 => ?_)
                    · have ho9 := cl_cn hC hcz.2 h95
                      refine lv_astoreN hx hb dd_D_wouldDeadlock_98 hl (by decide) rfl (fun ls hl => ?_)
                      have hl : lv_has ls 7 [(5, .null), (6, .int (bd_b false)), (0, .ref (ad (20 + c9))), (1, .ref (ad (8 + j))), (2, .int (bd_b bar)), (3, .ref (ad (8 + y))), (4, .int (bd_b sh))] := hl
                      refine lv_goto (tgt := 40) hx hb dd_D_wouldDeadlock_100 rfl ?_
                      exact ih2 none sh ls (fun z hz => by cases hz) hsh (by rw [← hi, cs_ic, if_neg (by rw [show ((sh || (B 14 cz && decide (N 7 cz = y))) && sp_l N (N 7 cz) y) = false by simp only [h50, h71, h88, Bool.and_true, Bool.true_and, Bool.and_false, Bool.false_and, Bool.or_true, Bool.true_or, Bool.or_false, Bool.false_or, Bool.and_self, Bool.or_self]]; decide), ho9]) (lv_sub hl [2, 3, 4, 5, 6, 0] rfl)
                    · obtain ⟨cc9, hcc9, hclt, rfl⟩ := cl_cs hC hcz.2 h95
                      refine lv_astore hx hb dd_D_wouldDeadlock_98 hl (by decide) rfl (fun ls hl => ?_)
                      have hl : lv_has ls 7 [(5, .ref (ad (20 + cc9))), (6, .int (bd_b false)), (0, .ref (ad (20 + c9))), (1, .ref (ad (8 + j))), (2, .int (bd_b bar)), (3, .ref (ad (8 + y))), (4, .int (bd_b sh))] := hl
                      refine lv_goto (tgt := 40) hx hb dd_D_wouldDeadlock_100 rfl ?_
                      exact ih2 (some cc9) sh ls (fun z hz => by cases hz; omega) hsh (by rw [← hi, cs_ic, if_neg (by rw [show ((sh || (B 14 cz && decide (N 7 cz = y))) && sp_l N (N 7 cz) y) = false by simp only [h50, h71, h88, Bool.and_true, Bool.true_and, Bool.and_false, Bool.false_and, Bool.or_true, Bool.true_or, Bool.or_false, Bool.false_or, Bool.and_self, Bool.or_self]]; decide), hcc9]) (lv_sub hl [2, 3, 4, 5, 6, 0] rfl)
                  · refine lv_iconst (v := bd_b true) hx hb dd_D_wouldDeadlock_91 (by decide) ?_
                    exact W.zret (ty := .boolean) hx hb hr (bd_b_nar _) (fun tt htt hWW => ⟨_, rfl, (by rw [← he, sp_any (cl_tr hC) _ hy, show cs_dp M N O B c9 j bar y = true from by rw [cs_dp, decide_eq_true hj3, ← hi, cs_ic, if_pos (show ((sh || (B 14 cz && decide (N 7 cz = y))) && sp_l N (N 7 cz) y) = true by simp only [h50, h71, h88, Bool.and_true, Bool.true_and, Bool.and_false, Bool.false_and, Bool.or_true, Bool.true_or, Bool.or_false, Bool.false_or, Bool.and_self, Bool.or_self])]; rfl]; rfl), htt⟩) (fun _ h => by cases h) dd_D_wouldDeadlock_92
                · refine lv_iload hx hb dd_D_wouldDeadlock_74 (lv_at hl 0 rfl) ?_
                  refine bq_zeq (tgt := 93) hx hb dd_D_wouldDeadlock_76 rfl (fun h76 => ?_) (fun h76 => ?_)
                  · refine lv_aload hx hb dd_D_wouldDeadlock_93 (lv_at hl 6 rfl) ?_
                    refine cw_getr (k := 20 + cz) (C := rn_B) (T := ft_B) (NF := 11) hx hb hts tw_fs_B hown hK hP (hks.2.2 _ hcz.2) (cw_CB _ ad ca _ _ _ _) rfl 5 (by decide) (hts _ tw_fl_D_110) rfl rfl dd_D_wouldDeadlock_95 (fun h95 => ?_) (fun k9 h95 => ?_)
                    · have ho9 := cl_cn hC hcz.2 h95
                      refine lv_astoreN hx hb dd_D_wouldDeadlock_98 hl (by decide) rfl (fun ls hl => ?_)
                      have hl : lv_has ls 7 [(5, .null), (6, .int (bd_b false)), (0, .ref (ad (20 + c9))), (1, .ref (ad (8 + j))), (2, .int (bd_b bar)), (3, .ref (ad (8 + y))), (4, .int (bd_b sh))] := hl
                      refine lv_goto (tgt := 40) hx hb dd_D_wouldDeadlock_100 rfl ?_
                      exact ih2 none sh ls (fun z hz => by cases hz) hsh (by rw [← hi, cs_ic, if_neg (by rw [show ((sh || (B 14 cz && decide (N 7 cz = y))) && sp_l N (N 7 cz) y) = false by simp only [h50, h71, Bool.and_true, Bool.true_and, Bool.and_false, Bool.false_and, Bool.or_true, Bool.true_or, Bool.or_false, Bool.false_or, Bool.and_self, Bool.or_self]]; decide), ho9]) (lv_sub hl [2, 3, 4, 5, 6, 0] rfl)
                    · obtain ⟨cc9, hcc9, hclt, rfl⟩ := cl_cs hC hcz.2 h95
                      refine lv_astore hx hb dd_D_wouldDeadlock_98 hl (by decide) rfl (fun ls hl => ?_)
                      have hl : lv_has ls 7 [(5, .ref (ad (20 + cc9))), (6, .int (bd_b false)), (0, .ref (ad (20 + c9))), (1, .ref (ad (8 + j))), (2, .int (bd_b bar)), (3, .ref (ad (8 + y))), (4, .int (bd_b sh))] := hl
                      refine lv_goto (tgt := 40) hx hb dd_D_wouldDeadlock_100 rfl ?_
                      exact ih2 (some cc9) sh ls (fun z hz => by cases hz; omega) hsh (by rw [← hi, cs_ic, if_neg (by rw [show ((sh || (B 14 cz && decide (N 7 cz = y))) && sp_l N (N 7 cz) y) = false by simp only [h50, h71, Bool.and_true, Bool.true_and, Bool.and_false, Bool.false_and, Bool.or_true, Bool.true_or, Bool.or_false, Bool.false_or, Bool.and_self, Bool.or_self]]; decide), hcc9]) (lv_sub hl [2, 3, 4, 5, 6, 0] rfl)
                  · cases h76
              · refine lv_aload hx hb dd_D_wouldDeadlock_53 (lv_at hl 5 rfl) ?_
                refine cw_getk (k := 20 + cz) (C := rn_B) (T := ft_B) (NF := 11) hx hb hts tw_fs_B hown hK hP (hks.2.2 _ hcz.2) (cw_CB _ ad ca _ _ _ _) rfl 1 (by decide) (hts _ tw_fl_D_141) rfl rfl (cl_h hC hcz.2) dd_D_wouldDeadlock_55 ?_
                refine lv_aload_n hx hb dd_D_wouldDeadlock_58 rfl (lv_at hl 3 rfl) ?_
                refine cw_acmp_ne (a := 8 + N 7 cz) (b := 8 + y) (tgt := 66) hx hb hJ (hks.2.1 _ (cl_hl hC hcz.2)) (hks.2.1 _ hy) dd_D_wouldDeadlock_59 rfl (fun h59 => ?_) (fun h59 => ?_)
                · have h59 : ¬ N 7 cz = y := by omega
                  refine lv_iconst (v := bd_b false) hx hb dd_D_wouldDeadlock_66 (by decide) ?_
                  refine lv_istore hx hb dd_D_wouldDeadlock_67 hl (by decide) rfl (fun ls hl => ?_)
                  have hl : lv_has ls 7 [(6, .int (bd_b false)), (0, .ref (ad (20 + c9))), (1, .ref (ad (8 + j))), (2, .int (bd_b bar)), (3, .ref (ad (8 + y))), (4, .int (bd_b sh)), (5, .ref (ad (20 + cz)))] := hl
                  refine lv_iload hx hb dd_D_wouldDeadlock_69 (lv_at hl 5 rfl) ?_
                  refine bq_zne (tgt := 79) hx hb dd_D_wouldDeadlock_71 rfl (fun h71 => ?_) (fun h71 => ?_)
                  · refine lv_aload hx hb dd_D_wouldDeadlock_79 (lv_at hl 6 rfl) ?_
                    refine cw_getk (k := 20 + cz) (C := rn_B) (T := ft_B) (NF := 11) hx hb hts tw_fs_B hown hK hP (hks.2.2 _ hcz.2) (cw_CB _ ad ca _ _ _ _) rfl 1 (by decide) (hts _ tw_fl_D_141) rfl rfl (cl_h hC hcz.2) dd_D_wouldDeadlock_81 ?_
                    refine lv_aload_n hx hb dd_D_wouldDeadlock_84 rfl (lv_at hl 4 rfl) ?_
                    refine cw_calli (k := 8 + N 7 cz) (C := rn_Q) (T := ft_Q) (NF := 10) (As := [.ref (ad (8 + y))]) (rest := []) (v := bd_b (sp_l N (N 7 cz) y)) ⟨hx, hb, hml, hown, hts⟩ (cc_Q_leadsTo l D ks ad ca M X F G N O B hC hks hMB hJ (N 7 cz) y (cl_hl hC hcz.2) hy) (bg_cwV 1 hts tw_ml_D_55 tw_im_Q_leadsTo tw_se_Q_leadsTo tw_in_Q tw_co_Q_leadsTo rfl rfl th_Q_leadsTo ⟨Nat.le_of_ble_eq_true rfl, Nat.le_of_ble_eq_true rfl⟩) hK hP (hks.2.1 _ (cl_hl hC hcz.2)) (cw_CQ (Nat.lt_of_lt_of_le (cl_hl hC hcz.2) (cl_12 hC)) ad ca _ _ _ _) rfl rfl hl.1 rfl (Nat.le_of_ble_eq_true rfl) dd_D_wouldDeadlock_85 ⟨Nat.zero_le _, Nat.zero_le _⟩ ?_
                    refine bq_zeq (tgt := 93) hx hb dd_D_wouldDeadlock_88 rfl (fun h88 => ?_) (fun h88 => ?_)
                    · refine lv_aload hx hb dd_D_wouldDeadlock_93 (lv_at hl 6 rfl) ?_
                      refine cw_getr (k := 20 + cz) (C := rn_B) (T := ft_B) (NF := 11) hx hb hts tw_fs_B hown hK hP (hks.2.2 _ hcz.2) (cw_CB _ ad ca _ _ _ _) rfl 5 (by decide) (hts _ tw_fl_D_110) rfl rfl dd_D_wouldDeadlock_95 (fun h95 => ?_) (fun k9 h95 => ?_)
                      · have ho9 := cl_cn hC hcz.2 h95
                        refine lv_astoreN hx hb dd_D_wouldDeadlock_98 hl (by decide) rfl (fun ls hl => ?_)
                        have hl : lv_has ls 7 [(5, .null), (6, .int (bd_b false)), (0, .ref (ad (20 + c9))), (1, .ref (ad (8 + j))), (2, .int (bd_b bar)), (3, .ref (ad (8 + y))), (4, .int (bd_b sh))] := hl
                        refine lv_goto (tgt := 40) hx hb dd_D_wouldDeadlock_100 rfl ?_
                        exact ih2 none sh ls (fun z hz => by cases hz) hsh (by rw [← hi, cs_ic, if_neg (by rw [show ((sh || (B 14 cz && decide (N 7 cz = y))) && sp_l N (N 7 cz) y) = false by simp only [h50, decide_eq_false h59, h71, h88, Bool.and_true, Bool.true_and, Bool.and_false, Bool.false_and, Bool.or_true, Bool.true_or, Bool.or_false, Bool.false_or, Bool.and_self, Bool.or_self]]; decide), ho9]) (lv_sub hl [2, 3, 4, 5, 6, 0] rfl)
                      · obtain ⟨cc9, hcc9, hclt, rfl⟩ := cl_cs hC hcz.2 h95
                        refine lv_astore hx hb dd_D_wouldDeadlock_98 hl (by decide) rfl (fun ls hl => ?_)
                        have hl : lv_has ls 7 [(5, .ref (ad (20 + cc9))), (6, .int (bd_b false)), (0, .ref (ad (20 + c9))), (1, .ref (ad (8 + j))), (2, .int (bd_b bar)), (3, .ref (ad (8 + y))), (4, .int (bd_b sh))] := hl
                        refine lv_goto (tgt := 40) hx hb dd_D_wouldDeadlock_100 rfl ?_
                        exact ih2 (some cc9) sh ls (fun z hz => by cases hz; omega) hsh (by rw [← hi, cs_ic, if_neg (by rw [show ((sh || (B 14 cz && decide (N 7 cz = y))) && sp_l N (N 7 cz) y) = false by simp only [h50, decide_eq_false h59, h71, h88, Bool.and_true, Bool.true_and, Bool.and_false, Bool.false_and, Bool.or_true, Bool.true_or, Bool.or_false, Bool.false_or, Bool.and_self, Bool.or_self]]; decide), hcc9]) (lv_sub hl [2, 3, 4, 5, 6, 0] rfl)
                    · refine lv_iconst (v := bd_b true) hx hb dd_D_wouldDeadlock_91 (by decide) ?_
                      exact W.zret (ty := .boolean) hx hb hr (bd_b_nar _) (fun tt htt hWW => ⟨_, rfl, (by rw [← he, sp_any (cl_tr hC) _ hy, show cs_dp M N O B c9 j bar y = true from by rw [cs_dp, decide_eq_true hj3, ← hi, cs_ic, if_pos (show ((sh || (B 14 cz && decide (N 7 cz = y))) && sp_l N (N 7 cz) y) = true by simp only [h50, decide_eq_false h59, h71, h88, Bool.and_true, Bool.true_and, Bool.and_false, Bool.false_and, Bool.or_true, Bool.true_or, Bool.or_false, Bool.false_or, Bool.and_self, Bool.or_self])]; rfl]; rfl), htt⟩) (fun _ h => by cases h) dd_D_wouldDeadlock_92
                  · refine lv_iload hx hb dd_D_wouldDeadlock_74 (lv_at hl 0 rfl) ?_
                    refine bq_zeq (tgt := 93) hx hb dd_D_wouldDeadlock_76 rfl (fun h76 => ?_) (fun h76 => ?_)
                    · refine lv_aload hx hb dd_D_wouldDeadlock_93 (lv_at hl 6 rfl) ?_
                      refine cw_getr (k := 20 + cz) (C := rn_B) (T := ft_B) (NF := 11) hx hb hts tw_fs_B hown hK hP (hks.2.2 _ hcz.2) (cw_CB _ ad ca _ _ _ _) rfl 5 (by decide) (hts _ tw_fl_D_110) rfl rfl dd_D_wouldDeadlock_95 (fun h95 => ?_) (fun k9 h95 => ?_)
                      · have ho9 := cl_cn hC hcz.2 h95
                        refine lv_astoreN hx hb dd_D_wouldDeadlock_98 hl (by decide) rfl (fun ls hl => ?_)
                        have hl : lv_has ls 7 [(5, .null), (6, .int (bd_b false)), (0, .ref (ad (20 + c9))), (1, .ref (ad (8 + j))), (2, .int (bd_b bar)), (3, .ref (ad (8 + y))), (4, .int (bd_b sh))] := hl
                        refine lv_goto (tgt := 40) hx hb dd_D_wouldDeadlock_100 rfl ?_
                        exact ih2 none sh ls (fun z hz => by cases hz) hsh (by rw [← hi, cs_ic, if_neg (by rw [show ((sh || (B 14 cz && decide (N 7 cz = y))) && sp_l N (N 7 cz) y) = false by simp only [h50, decide_eq_false h59, h71, Bool.and_true, Bool.true_and, Bool.and_false, Bool.false_and, Bool.or_true, Bool.true_or, Bool.or_false, Bool.false_or, Bool.and_self, Bool.or_self]]; decide), ho9]) (lv_sub hl [2, 3, 4, 5, 6, 0] rfl)
                      · obtain ⟨cc9, hcc9, hclt, rfl⟩ := cl_cs hC hcz.2 h95
                        refine lv_astore hx hb dd_D_wouldDeadlock_98 hl (by decide) rfl (fun ls hl => ?_)
                        have hl : lv_has ls 7 [(5, .ref (ad (20 + cc9))), (6, .int (bd_b false)), (0, .ref (ad (20 + c9))), (1, .ref (ad (8 + j))), (2, .int (bd_b bar)), (3, .ref (ad (8 + y))), (4, .int (bd_b sh))] := hl
                        refine lv_goto (tgt := 40) hx hb dd_D_wouldDeadlock_100 rfl ?_
                        exact ih2 (some cc9) sh ls (fun z hz => by cases hz; omega) hsh (by rw [← hi, cs_ic, if_neg (by rw [show ((sh || (B 14 cz && decide (N 7 cz = y))) && sp_l N (N 7 cz) y) = false by simp only [h50, decide_eq_false h59, h71, Bool.and_true, Bool.true_and, Bool.and_false, Bool.false_and, Bool.or_true, Bool.true_or, Bool.or_false, Bool.false_or, Bool.and_self, Bool.or_self]]; decide), hcc9]) (lv_sub hl [2, 3, 4, 5, 6, 0] rfl)
                    · cases h76
                · have h59 :  N 7 cz = y := by omega
                  refine lv_iconst (v := bd_b true) hx hb dd_D_wouldDeadlock_62 (by decide) ?_
                  refine lv_goto (tgt := 67) hx hb dd_D_wouldDeadlock_63 rfl ?_
                  refine lv_istore hx hb dd_D_wouldDeadlock_67 hl (by decide) rfl (fun ls hl => ?_)
                  have hl : lv_has ls 7 [(6, .int (bd_b true)), (0, .ref (ad (20 + c9))), (1, .ref (ad (8 + j))), (2, .int (bd_b bar)), (3, .ref (ad (8 + y))), (4, .int (bd_b sh)), (5, .ref (ad (20 + cz)))] := hl
                  refine lv_iload hx hb dd_D_wouldDeadlock_69 (lv_at hl 5 rfl) ?_
                  refine bq_zne (tgt := 79) hx hb dd_D_wouldDeadlock_71 rfl (fun h71 => ?_) (fun h71 => ?_)
                  · refine lv_aload hx hb dd_D_wouldDeadlock_79 (lv_at hl 6 rfl) ?_
                    refine cw_getk (k := 20 + cz) (C := rn_B) (T := ft_B) (NF := 11) hx hb hts tw_fs_B hown hK hP (hks.2.2 _ hcz.2) (cw_CB _ ad ca _ _ _ _) rfl 1 (by decide) (hts _ tw_fl_D_141) rfl rfl (cl_h hC hcz.2) dd_D_wouldDeadlock_81 ?_
                    refine lv_aload_n hx hb dd_D_wouldDeadlock_84 rfl (lv_at hl 4 rfl) ?_
                    refine cw_calli (k := 8 + N 7 cz) (C := rn_Q) (T := ft_Q) (NF := 10) (As := [.ref (ad (8 + y))]) (rest := []) (v := bd_b (sp_l N (N 7 cz) y)) ⟨hx, hb, hml, hown, hts⟩ (cc_Q_leadsTo l D ks ad ca M X F G N O B hC hks hMB hJ (N 7 cz) y (cl_hl hC hcz.2) hy) (bg_cwV 1 hts tw_ml_D_55 tw_im_Q_leadsTo tw_se_Q_leadsTo tw_in_Q tw_co_Q_leadsTo rfl rfl th_Q_leadsTo ⟨Nat.le_of_ble_eq_true rfl, Nat.le_of_ble_eq_true rfl⟩) hK hP (hks.2.1 _ (cl_hl hC hcz.2)) (cw_CQ (Nat.lt_of_lt_of_le (cl_hl hC hcz.2) (cl_12 hC)) ad ca _ _ _ _) rfl rfl hl.1 rfl (Nat.le_of_ble_eq_true rfl) dd_D_wouldDeadlock_85 ⟨Nat.zero_le _, Nat.zero_le _⟩ ?_
                    refine bq_zeq (tgt := 93) hx hb dd_D_wouldDeadlock_88 rfl (fun h88 => ?_) (fun h88 => ?_)
                    · refine lv_aload hx hb dd_D_wouldDeadlock_93 (lv_at hl 6 rfl) ?_
                      refine cw_getr (k := 20 + cz) (C := rn_B) (T := ft_B) (NF := 11) hx hb hts tw_fs_B hown hK hP (hks.2.2 _ hcz.2) (cw_CB _ ad ca _ _ _ _) rfl 5 (by decide) (hts _ tw_fl_D_110) rfl rfl dd_D_wouldDeadlock_95 (fun h95 => ?_) (fun k9 h95 => ?_)
                      · have ho9 := cl_cn hC hcz.2 h95
                        refine lv_astoreN hx hb dd_D_wouldDeadlock_98 hl (by decide) rfl (fun ls hl => ?_)
                        have hl : lv_has ls 7 [(5, .null), (6, .int (bd_b true)), (0, .ref (ad (20 + c9))), (1, .ref (ad (8 + j))), (2, .int (bd_b bar)), (3, .ref (ad (8 + y))), (4, .int (bd_b sh))] := hl
                        refine lv_goto (tgt := 40) hx hb dd_D_wouldDeadlock_100 rfl ?_
                        exact ih2 none sh ls (fun z hz => by cases hz) hsh (by rw [← hi, cs_ic, if_neg (by rw [show ((sh || (B 14 cz && decide (N 7 cz = y))) && sp_l N (N 7 cz) y) = false by simp only [h50, decide_eq_true h59, h71, h88, Bool.and_true, Bool.true_and, Bool.and_false, Bool.false_and, Bool.or_true, Bool.true_or, Bool.or_false, Bool.false_or, Bool.and_self, Bool.or_self]]; decide), ho9]) (lv_sub hl [2, 3, 4, 5, 6, 0] rfl)
                      · obtain ⟨cc9, hcc9, hclt, rfl⟩ := cl_cs hC hcz.2 h95
                        refine lv_astore hx hb dd_D_wouldDeadlock_98 hl (by decide) rfl (fun ls hl => ?_)
                        have hl : lv_has ls 7 [(5, .ref (ad (20 + cc9))), (6, .int (bd_b true)), (0, .ref (ad (20 + c9))), (1, .ref (ad (8 + j))), (2, .int (bd_b bar)), (3, .ref (ad (8 + y))), (4, .int (bd_b sh))] := hl
                        refine lv_goto (tgt := 40) hx hb dd_D_wouldDeadlock_100 rfl ?_
                        exact ih2 (some cc9) sh ls (fun z hz => by cases hz; omega) hsh (by rw [← hi, cs_ic, if_neg (by rw [show ((sh || (B 14 cz && decide (N 7 cz = y))) && sp_l N (N 7 cz) y) = false by simp only [h50, decide_eq_true h59, h71, h88, Bool.and_true, Bool.true_and, Bool.and_false, Bool.false_and, Bool.or_true, Bool.true_or, Bool.or_false, Bool.false_or, Bool.and_self, Bool.or_self]]; decide), hcc9]) (lv_sub hl [2, 3, 4, 5, 6, 0] rfl)
                    · refine lv_iconst (v := bd_b true) hx hb dd_D_wouldDeadlock_91 (by decide) ?_
                      exact W.zret (ty := .boolean) hx hb hr (bd_b_nar _) (fun tt htt hWW => ⟨_, rfl, (by rw [← he, sp_any (cl_tr hC) _ hy, show cs_dp M N O B c9 j bar y = true from by rw [cs_dp, decide_eq_true hj3, ← hi, cs_ic, if_pos (show ((sh || (B 14 cz && decide (N 7 cz = y))) && sp_l N (N 7 cz) y) = true by simp only [h50, decide_eq_true h59, h71, h88, Bool.and_true, Bool.true_and, Bool.and_false, Bool.false_and, Bool.or_true, Bool.true_or, Bool.or_false, Bool.false_or, Bool.and_self, Bool.or_self])]; rfl]; rfl), htt⟩) (fun _ h => by cases h) dd_D_wouldDeadlock_92
                  · refine lv_iload hx hb dd_D_wouldDeadlock_74 (lv_at hl 0 rfl) ?_
                    refine bq_zeq (tgt := 93) hx hb dd_D_wouldDeadlock_76 rfl (fun h76 => ?_) (fun h76 => ?_)
                    · cases h76
                    · refine lv_aload hx hb dd_D_wouldDeadlock_79 (lv_at hl 6 rfl) ?_
                      refine cw_getk (k := 20 + cz) (C := rn_B) (T := ft_B) (NF := 11) hx hb hts tw_fs_B hown hK hP (hks.2.2 _ hcz.2) (cw_CB _ ad ca _ _ _ _) rfl 1 (by decide) (hts _ tw_fl_D_141) rfl rfl (cl_h hC hcz.2) dd_D_wouldDeadlock_81 ?_
                      refine lv_aload_n hx hb dd_D_wouldDeadlock_84 rfl (lv_at hl 4 rfl) ?_
                      refine cw_calli (k := 8 + N 7 cz) (C := rn_Q) (T := ft_Q) (NF := 10) (As := [.ref (ad (8 + y))]) (rest := []) (v := bd_b (sp_l N (N 7 cz) y)) ⟨hx, hb, hml, hown, hts⟩ (cc_Q_leadsTo l D ks ad ca M X F G N O B hC hks hMB hJ (N 7 cz) y (cl_hl hC hcz.2) hy) (bg_cwV 1 hts tw_ml_D_55 tw_im_Q_leadsTo tw_se_Q_leadsTo tw_in_Q tw_co_Q_leadsTo rfl rfl th_Q_leadsTo ⟨Nat.le_of_ble_eq_true rfl, Nat.le_of_ble_eq_true rfl⟩) hK hP (hks.2.1 _ (cl_hl hC hcz.2)) (cw_CQ (Nat.lt_of_lt_of_le (cl_hl hC hcz.2) (cl_12 hC)) ad ca _ _ _ _) rfl rfl hl.1 rfl (Nat.le_of_ble_eq_true rfl) dd_D_wouldDeadlock_85 ⟨Nat.zero_le _, Nat.zero_le _⟩ ?_
                      refine bq_zeq (tgt := 93) hx hb dd_D_wouldDeadlock_88 rfl (fun h88 => ?_) (fun h88 => ?_)
                      · refine lv_aload hx hb dd_D_wouldDeadlock_93 (lv_at hl 6 rfl) ?_
                        refine cw_getr (k := 20 + cz) (C := rn_B) (T := ft_B) (NF := 11) hx hb hts tw_fs_B hown hK hP (hks.2.2 _ hcz.2) (cw_CB _ ad ca _ _ _ _) rfl 5 (by decide) (hts _ tw_fl_D_110) rfl rfl dd_D_wouldDeadlock_95 (fun h95 => ?_) (fun k9 h95 => ?_)
                        · have ho9 := cl_cn hC hcz.2 h95
                          refine lv_astoreN hx hb dd_D_wouldDeadlock_98 hl (by decide) rfl (fun ls hl => ?_)
                          have hl : lv_has ls 7 [(5, .null), (6, .int (bd_b true)), (0, .ref (ad (20 + c9))), (1, .ref (ad (8 + j))), (2, .int (bd_b bar)), (3, .ref (ad (8 + y))), (4, .int (bd_b sh))] := hl
                          refine lv_goto (tgt := 40) hx hb dd_D_wouldDeadlock_100 rfl ?_
                          exact ih2 none sh ls (fun z hz => by cases hz) hsh (by rw [← hi, cs_ic, if_neg (by rw [show ((sh || (B 14 cz && decide (N 7 cz = y))) && sp_l N (N 7 cz) y) = false by simp only [h50, decide_eq_true h59, h71, h88, Bool.and_true, Bool.true_and, Bool.and_false, Bool.false_and, Bool.or_true, Bool.true_or, Bool.or_false, Bool.false_or, Bool.and_self, Bool.or_self]]; decide), ho9]) (lv_sub hl [2, 3, 4, 5, 6, 0] rfl)
                        · obtain ⟨cc9, hcc9, hclt, rfl⟩ := cl_cs hC hcz.2 h95
                          refine lv_astore hx hb dd_D_wouldDeadlock_98 hl (by decide) rfl (fun ls hl => ?_)
                          have hl : lv_has ls 7 [(5, .ref (ad (20 + cc9))), (6, .int (bd_b true)), (0, .ref (ad (20 + c9))), (1, .ref (ad (8 + j))), (2, .int (bd_b bar)), (3, .ref (ad (8 + y))), (4, .int (bd_b sh))] := hl
                          refine lv_goto (tgt := 40) hx hb dd_D_wouldDeadlock_100 rfl ?_
                          exact ih2 (some cc9) sh ls (fun z hz => by cases hz; omega) hsh (by rw [← hi, cs_ic, if_neg (by rw [show ((sh || (B 14 cz && decide (N 7 cz = y))) && sp_l N (N 7 cz) y) = false by simp only [h50, decide_eq_true h59, h71, h88, Bool.and_true, Bool.true_and, Bool.and_false, Bool.false_and, Bool.or_true, Bool.true_or, Bool.or_false, Bool.false_or, Bool.and_self, Bool.or_self]]; decide), hcc9]) (lv_sub hl [2, 3, 4, 5, 6, 0] rfl)
                      · refine lv_iconst (v := bd_b true) hx hb dd_D_wouldDeadlock_91 (by decide) ?_
                        exact W.zret (ty := .boolean) hx hb hr (bd_b_nar _) (fun tt htt hWW => ⟨_, rfl, (by rw [← he, sp_any (cl_tr hC) _ hy, show cs_dp M N O B c9 j bar y = true from by rw [cs_dp, decide_eq_true hj3, ← hi, cs_ic, if_pos (show ((sh || (B 14 cz && decide (N 7 cz = y))) && sp_l N (N 7 cz) y) = true by simp only [h50, decide_eq_true h59, h71, h88, Bool.and_true, Bool.true_and, Bool.and_false, Bool.false_and, Bool.or_true, Bool.true_or, Bool.or_false, Bool.false_or, Bool.and_self, Bool.or_self])]; rfl]; rfl), htt⟩) (fun _ h => by cases h) dd_D_wouldDeadlock_92
        refine lv_aload_n hx hb dd_D_wouldDeadlock_13 rfl (lv_at hl 3 rfl) ?_
        refine cw_get1 (k := 8 + y) (C := rn_Q) (T := ft_Q) (NF := 10) (v := .int (nI (M (8 + y) 1))) hx hb hts tw_fs_Q hown hK hP (hks.2.1 _ hy) (cw_CQ (Nat.lt_of_lt_of_le hy (cl_12 hC)) ad ca _ _ _ _) rfl 1 (by decide) (hts _ tw_fl_D_198) rfl rfl dd_D_wouldDeadlock_14 ?_
        refine lv_iconst (v := nI 1) hx hb dd_D_wouldDeadlock_17 (by decide) ?_
        refine bq_eq (tgt := 30) hx hb (hMB _ _) (by decide) dd_D_wouldDeadlock_18 rfl (fun h18 => ?_) (fun h18 => ?_)
        · refine lv_iconst (v := bd_b true) hx hb dd_D_wouldDeadlock_30 (by decide) ?_
          refine lv_goto (tgt := 35) hx hb dd_D_wouldDeadlock_31 rfl ?_
          refine lv_istore hx hb dd_D_wouldDeadlock_35 hl (by decide) rfl (fun ls hl => ?_)
          have hl : lv_has ls 7 [(4, .int (bd_b true)), (0, .ref (ad (20 + c9))), (1, .ref (ad (8 + j))), (2, .int (bd_b bar)), (3, .ref (ad (8 + y)))] := hl
          refine lv_aload_n hx hb dd_D_wouldDeadlock_37 rfl (lv_at hl 1 rfl) ?_
          refine lv_astore hx hb dd_D_wouldDeadlock_38 hl (by decide) rfl (fun ls hl => ?_)
          have hl : lv_has ls 7 [(5, .ref (ad (20 + c9))), (4, .int (bd_b true)), (0, .ref (ad (20 + c9))), (1, .ref (ad (8 + j))), (2, .int (bd_b bar)), (3, .ref (ad (8 + y)))] := hl
          exact lq 160 (some c9) true ls (fun z hz => by cases hz; omega) (by rw [cs_sh]; rw [decide_eq_true h18]; rfl) (by rw [show true = cs_sh M j bar y from by rw [cs_sh]; rw [decide_eq_true h18]; rfl]) (lv_sub hl [2, 3, 4, 5, 1, 0] rfl)
        · refine lv_iload_n hx hb dd_D_wouldDeadlock_21 rfl (lv_at hl 2 rfl) ?_
          refine bq_zeq (tgt := 34) hx hb dd_D_wouldDeadlock_22 rfl (fun h22 => ?_) (fun h22 => ?_)
          · refine lv_iconst (v := bd_b false) hx hb dd_D_wouldDeadlock_34 (by decide) ?_
            refine lv_istore hx hb dd_D_wouldDeadlock_35 hl (by decide) rfl (fun ls hl => ?_)
            have hl : lv_has ls 7 [(4, .int (bd_b false)), (0, .ref (ad (20 + c9))), (1, .ref (ad (8 + j))), (2, .int (bd_b bar)), (3, .ref (ad (8 + y)))] := hl
            refine lv_aload_n hx hb dd_D_wouldDeadlock_37 rfl (lv_at hl 1 rfl) ?_
            refine lv_astore hx hb dd_D_wouldDeadlock_38 hl (by decide) rfl (fun ls hl => ?_)
            have hl : lv_has ls 7 [(5, .ref (ad (20 + c9))), (4, .int (bd_b false)), (0, .ref (ad (20 + c9))), (1, .ref (ad (8 + j))), (2, .int (bd_b bar)), (3, .ref (ad (8 + y)))] := hl
            exact lq 160 (some c9) false ls (fun z hz => by cases hz; omega) (by rw [cs_sh]; rw [decide_eq_false h18, h22]; rfl) (by rw [show false = cs_sh M j bar y from by rw [cs_sh]; rw [decide_eq_false h18, h22]; rfl]) (lv_sub hl [2, 3, 4, 5, 1, 0] rfl)
          · refine lv_aload_n hx hb dd_D_wouldDeadlock_25 rfl (lv_at hl 3 rfl) ?_
            refine lv_aload_n hx hb dd_D_wouldDeadlock_26 rfl (lv_at hl 1 rfl) ?_
            refine cw_acmp_ne (a := 8 + y) (b := 8 + j) (tgt := 34) hx hb hJ (hks.2.1 _ hy) (hks.2.1 _ hj) dd_D_wouldDeadlock_27 rfl (fun h27 => ?_) (fun h27 => ?_)
            · have h27 : ¬ y = j := by omega
              refine lv_iconst (v := bd_b false) hx hb dd_D_wouldDeadlock_34 (by decide) ?_
              refine lv_istore hx hb dd_D_wouldDeadlock_35 hl (by decide) rfl (fun ls hl => ?_)
              have hl : lv_has ls 7 [(4, .int (bd_b false)), (0, .ref (ad (20 + c9))), (1, .ref (ad (8 + j))), (2, .int (bd_b bar)), (3, .ref (ad (8 + y)))] := hl
              refine lv_aload_n hx hb dd_D_wouldDeadlock_37 rfl (lv_at hl 1 rfl) ?_
              refine lv_astore hx hb dd_D_wouldDeadlock_38 hl (by decide) rfl (fun ls hl => ?_)
              have hl : lv_has ls 7 [(5, .ref (ad (20 + c9))), (4, .int (bd_b false)), (0, .ref (ad (20 + c9))), (1, .ref (ad (8 + j))), (2, .int (bd_b bar)), (3, .ref (ad (8 + y)))] := hl
              exact lq 160 (some c9) false ls (fun z hz => by cases hz; omega) (by rw [cs_sh]; rw [decide_eq_false h18, h22, decide_eq_false h27]; rfl) (by rw [show false = cs_sh M j bar y from by rw [cs_sh]; rw [decide_eq_false h18, h22, decide_eq_false h27]; rfl]) (lv_sub hl [2, 3, 4, 5, 1, 0] rfl)
            · have h27 : y = j := by omega
              refine lv_iconst (v := bd_b true) hx hb dd_D_wouldDeadlock_30 (by decide) ?_
              refine lv_goto (tgt := 35) hx hb dd_D_wouldDeadlock_31 rfl ?_
              refine lv_istore hx hb dd_D_wouldDeadlock_35 hl (by decide) rfl (fun ls hl => ?_)
              have hl : lv_has ls 7 [(4, .int (bd_b true)), (0, .ref (ad (20 + c9))), (1, .ref (ad (8 + j))), (2, .int (bd_b bar)), (3, .ref (ad (8 + y)))] := hl
              refine lv_aload_n hx hb dd_D_wouldDeadlock_37 rfl (lv_at hl 1 rfl) ?_
              refine lv_astore hx hb dd_D_wouldDeadlock_38 hl (by decide) rfl (fun ls hl => ?_)
              have hl : lv_has ls 7 [(5, .ref (ad (20 + c9))), (4, .int (bd_b true)), (0, .ref (ad (20 + c9))), (1, .ref (ad (8 + j))), (2, .int (bd_b bar)), (3, .ref (ad (8 + y)))] := hl
              exact lq 160 (some c9) true ls (fun z hz => by cases hz; omega) (by rw [cs_sh]; rw [decide_eq_false h18, h22, decide_eq_true h27]; rfl) (by rw [show true = cs_sh M j bar y from by rw [cs_sh]; rw [decide_eq_false h18, h22, decide_eq_true h27]; rfl]) (lv_sub hl [2, 3, 4, 5, 1, 0] rfl)
  refine lv_aload_n hx hb dd_D_wouldDeadlock_0 rfl (lv_at hl 1 rfl) ?_
  refine lv_astore_n hx hb dd_D_wouldDeadlock_1 rfl hl (by decide) rfl (fun ls hl => ?_)
  have hl : lv_has ls 7 [(3, .ref (ad (8 + j))), (0, .ref (ad (20 + c9))), (1, .ref (ad (8 + j))), (2, .int (bd_b bar))] := hl
  exact lp j hj ls rfl (lv_sub hl [1, 2, 3, 0] rfl)

set_option maxHeartbeats 4000000 in
set_option maxRecDepth 100000 in
theorem cc_D_deadlineIn (l : Launch) (D : va_G) (ks : List Nat) (ad : Nat → Nat) (ca : Nat → ClassId) (M : sp_N) (X : sp_B) (F : sp_O) (G : sp_Z) (N : sp_N) (O : sp_O) (B : sp_B) (hC : cl_S M X F N O B) (hks : cl_k ks N) (hMB : cl_B M) (d : Int64) : Met l my_D_deadlineIn (Cond.code my_D_deadlineIn cd_D_deadlineIn 3 (some .long) :: bg_tbl) ({ frames := 0, cells := 0, slots := 0, locals := 0 }) (va_Pc [.ref (ad 0), .long d] (cw_U D ks ad ca M X F G)) (vp_Sl (fun r => r = cs_dl G d)) 0 0 (fun _ => False) := by
  refine Met.ofW (cc := cd_D_deadlineIn) (maxL := 3) (ret := (some .long)) (by decide) rfl ?_
  intro p e s m args below meth c s₁ BB hml hv
  obtain ⟨rfl, hP, hK⟩ := hv
  have hx := BB.exec
  have hb := BB.bytes
  have hr := BB.returns
  have hts : ∀ w ∈ bg_tbl, w.before ([.ref (ad 0), .long d] : List Value).toArray s = true := fun w h => atoms_spec (ws := (Cond.code my_D_deadlineIn cd_D_deadlineIn 3 (some .long) :: bg_tbl)) BB.pre w (List.mem_cons_of_mem _ h)
  have hown : s.vm.findClass rn_D = some m.cls := findClass_of_methodNamed BB.named
  have hlocks := BB.notSynchronized
  have h12 := cl_12 hC
  have h160 := cl_160 hC
  have h3q := cl_3 hC
  have hM4 := cl_M4 hC
  have hM5 := cl_M5 hC
  have hl := lv_entry ([.ref (ad 0), .long d]) (n := 3) (Nat.le_of_ble_eq_true rfl)
  rw [lg_entry_eq]
  generalize (lg_sl ([.ref (ad 0), .long d]) ++ List.replicate (3 - (lg_sl ([.ref (ad 0), .long d])).length) Slot.unset).toArray = ls at hl ⊢
  have hl : lv_has ls 3 [(0, .ref (ad 0)), (1, .long d)] := hl
  refine lv_lload_n hx hb dd_D_deadlineIn_0 rfl (lv_at hl 1 rfl) ?_
  refine lv_ldc2 (v := 9223372036854775807) hx hb hown (hts _ tw_k2_D_196) dd_D_deadlineIn_1 ?_
  refine lv_aload_n hx hb dd_D_deadlineIn_4 rfl (lv_at hl 0 rfl) ?_
  refine cw_get1 (k := 0) (C := rn_D) (T := ft_D) (NF := 9) (v := .long (G 0 8)) hx hb hts tw_fs_D hown hK hP (hks.1 0 (by decide)) (cw_C0 ad ca _ _ _ _) rfl 8 (by decide) (hts _ tw_fl_D_159) rfl rfl dd_D_deadlineIn_5 ?_
  refine lv_lsub hx hb dd_D_deadlineIn_8 ?_
  refine W.lcmp hx hb dd_D_deadlineIn_9 ?_
  refine bq_llt (tgt := 19) hx hb dd_D_deadlineIn_10 rfl (fun h10 => ?_) (fun h10 => ?_)
  · refine lv_aload_n hx hb dd_D_deadlineIn_19 rfl (lv_at hl 0 rfl) ?_
    refine cw_get1 (k := 0) (C := rn_D) (T := ft_D) (NF := 9) (v := .long (G 0 8)) hx hb hts tw_fs_D hown hK hP (hks.1 0 (by decide)) (cw_C0 ad ca _ _ _ _) rfl 8 (by decide) (hts _ tw_fl_D_159) rfl rfl dd_D_deadlineIn_20 ?_
    refine lv_lload_n hx hb dd_D_deadlineIn_23 rfl (lv_at hl 1 rfl) ?_
    refine lv_ladd hx hb dd_D_deadlineIn_24 ?_
    exact W.lret hx hb hr (fun tt htt hWW => ⟨_, rfl, (by rw [cs_dl, if_pos h10]), htt⟩) (fun _ h => by cases h) dd_D_deadlineIn_25
  · refine lv_ldc2 (v := 9223372036854775807) hx hb hown (hts _ tw_k2_D_196) dd_D_deadlineIn_13 ?_
    refine lv_goto (tgt := 25) hx hb dd_D_deadlineIn_16 rfl ?_
    exact W.lret hx hb hr (fun tt htt hWW => ⟨_, rfl, (by rw [cs_dl, if_neg (Int64.not_lt.mpr h10)]), htt⟩) (fun _ h => by cases h) dd_D_deadlineIn_25

set_option maxHeartbeats 4000000 in
set_option maxRecDepth 100000 in
theorem cc_D_now (l : Launch) (D : va_G) (ks : List Nat) (ad : Nat → Nat) (ca : Nat → ClassId) (M : sp_N) (X : sp_B) (F : sp_O) (G : sp_Z) (N : sp_N) (O : sp_O) (B : sp_B) (hC : cl_S M X F N O B) (hks : cl_k ks N) (hMB : cl_B M)  : Met l my_D_now (Cond.code my_D_now cd_D_now 1 (some .long) :: bg_tbl) ({ frames := 0, cells := 0, slots := 0, locals := 0 }) (va_Pc [.ref (ad 0)] (cw_U D ks ad ca M X F G)) (vp_Sl (fun r => r = G 0 8)) 0 0 (fun _ => False) := by
  refine Met.ofW (cc := cd_D_now) (maxL := 1) (ret := (some .long)) (by decide) rfl ?_
  intro p e s m args below meth c s₁ BB hml hv
  obtain ⟨rfl, hP, hK⟩ := hv
  have hx := BB.exec
  have hb := BB.bytes
  have hr := BB.returns
  have hts : ∀ w ∈ bg_tbl, w.before ([.ref (ad 0)] : List Value).toArray s = true := fun w h => atoms_spec (ws := (Cond.code my_D_now cd_D_now 1 (some .long) :: bg_tbl)) BB.pre w (List.mem_cons_of_mem _ h)
  have hown : s.vm.findClass rn_D = some m.cls := findClass_of_methodNamed BB.named
  have hlocks := BB.notSynchronized
  have h12 := cl_12 hC
  have h160 := cl_160 hC
  have h3q := cl_3 hC
  have hM4 := cl_M4 hC
  have hM5 := cl_M5 hC
  have hl := lv_entry ([.ref (ad 0)]) (n := 1) (Nat.le_of_ble_eq_true rfl)
  rw [lg_entry_eq]
  generalize (lg_sl ([.ref (ad 0)]) ++ List.replicate (1 - (lg_sl ([.ref (ad 0)])).length) Slot.unset).toArray = ls at hl ⊢
  have hl : lv_has ls 1 [(0, .ref (ad 0))] := hl
  refine lv_aload_n hx hb dd_D_now_0 rfl (lv_at hl 0 rfl) ?_
  refine cw_get1 (k := 0) (C := rn_D) (T := ft_D) (NF := 9) (v := .long (G 0 8)) hx hb hts tw_fs_D hown hK hP (hks.1 0 (by decide)) (cw_C0 ad ca _ _ _ _) rfl 8 (by decide) (hts _ tw_fl_D_159) rfl rfl dd_D_now_1 ?_
  exact W.lret hx hb hr (fun tt htt hWW => ⟨_, rfl, rfl, htt⟩) (fun _ h => by cases h) dd_D_now_4

