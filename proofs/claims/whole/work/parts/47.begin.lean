/-! Part 47: finish and begin as wholes. -/
section MG
variable {M : sp_N} {X : sp_B} {F F' : sp_O} {G : sp_Z} {N N' : sp_N} {O : sp_O} {Z : sp_Z} {B : sp_B} {t : Nat}
theorem mt_om1 (ht : t < N 6 0) (h5 : N 8 t < 5) {g : Nat} (hg : O 10 t = some g) : 1 ≤ sp_om N O g := by
  refine sp_c_pos.mpr ⟨t, ht, ?_⟩
  rw [decide_eq_true hg, decide_eq_true h5]
  rfl
theorem mt_finpre (h : cl_R M X F G N O Z B) : ∀ a, a < N 6 0 → M (20 + a) 3 = 3 → (O 9 a = none → 1 ≤ M 0 6) ∧ (∀ j, j < N 1 0 → sp_l N (N 7 a) j = true → 1 ≤ M (8 + j) 7) ∧ (∀ g, O 10 a = some g → 1 ≤ M (4 + g) 1) := by
  intro a ha h3
  obtain ⟨hS, hD, hV, hB⟩ := h
  rw [(hD.2.2.1 a ha).1] at h3
  have hv : sp_v N a = true := by unfold sp_v; rw [h3]; rfl
  refine ⟨fun hn => ?_, fun j hj hl => ?_, fun g hg => ?_⟩
  · rw [hD.1.2.1]
    refine sp_c_pos.mpr ⟨a, ha, ?_⟩
    rw [hv, decide_eq_true hn]; rfl
  · rw [(hD.2.1 j hj).2.2.2.1]
    refine sp_c_pos.mpr ⟨a, ha, ?_⟩
    rw [hv, hl]; rfl
  · rw [(hD.2.2.2 g (hS.2.2.2.2.1 a g ha hg)).2]
    exact mt_om1 ha (by omega) hg
theorem mt_finish2 (h : cl_R M X F G N O Z B) {o : Option Nat} (ho : ∀ k, o = some k → k < N 6 0) : cm_finish M o = am_finish N o ∧ cl_R (cn_finish M F N o).1 (cx_finish M X N o) (cn_finish M F N o).2 G (nm_finish N O o) O Z B := by
  cases o with
  | none => exact ⟨rfl, h⟩
  | some a =>
    have ha := ho a rfl
    have hd := (h.2.1.2.2.1 a ha).1
    unfold cm_finish am_finish cn_finish cx_finish nm_finish
    dsimp only
    rw [hd]
    refine ⟨rfl, ?_⟩
    by_cases h3 : N 8 a = 3
    · rw [if_pos h3, if_pos h3, if_pos h3]; exact mt_finish h ha h3
    · rw [if_neg h3, if_neg h3, if_neg h3]; exact h
theorem sp_r_cg (h2 : N' 2 = N 2) (a : Nat) : sp_r N' a = sp_r N a := by
  unfold sp_r
  rw [sp_l_cg h2, sp_l_cg h2]
theorem cs_ms_cg (h1 : N' 1 = N 1) (h2 : N' 2 = N 2) (h7 : N' 7 = N 7) (u : Nat) : cs_ms M X F N' u = cs_ms M X F N u := by
  unfold cs_ms cs_in
  rw [h1, h7, sp_a_congr (fun x _ => by rw [sp_l_cg h2])]
theorem cs_h_cg (h1 : N' 1 = N 1) (h2 : N' 2 = N 2) (h7 : N' 7 = N 7) : ∀ n, cs_h M X F N' n = cs_h M X F N n
  | 0 => rfl
  | n + 1 => by
    show cs_g M X F N' (cs_h M X F N' n) (cs_f F n) = cs_g M X F N (cs_h M X F N n) (cs_f F n)
    rw [cs_h_cg h1 h2 h7 n]
    cases cs_f F n with
    | none => rfl
    | some u =>
      have he : cs_e M N' (cs_h M X F N n) u = cs_e M N (cs_h M X F N n) u := by
        cases cs_h M X F N n with
        | none => rfl
        | some b =>
          show cs_bf M N' u b = cs_bf M N u b
          unfold cs_bf
          rw [h7, sp_r_cg h2, sp_r_cg h2]
      show (if _ then _ else _) = (if _ then _ else _)
      rw [cs_ms_cg h1 h2 h7, he]
theorem cs_cc_cg (h6 : N' 6 = N 6) (h7 : N' 7 = N 7) (u v : Nat) : cs_cc M F N' u v = cs_cc M F N u v := by
  unfold cs_cc
  cases F (20 + u) 6 with
  | none => rfl
  | some k => exact cs_R_cg h6 h7 _
theorem cs_sM_cg (h1 : N' 1 = N 1) (h2 : N' 2 = N 2) (h7 : N' 7 = N 7) (u : Nat) : cs_sM M F N' u = cs_sM M F N u := by
  unfold cs_sM cs_up
  funext k f
  rw [h1, h7, sp_l_cg h2]
theorem cs_sX_cg (h7 : N' 7 = N 7) (u : Nat) : cs_sX X N' u = cs_sX X N u := by
  unfold cs_sX
  rw [h7]
theorem sp_R_5 (g : Nat) : ∀ n u, (sp_R N O g n 8 u < 5 ↔ N 8 u < 5)
  | 0, _ => Iff.rfl
  | n + 1, u => by
    have ih := sp_R_5 g n u
    unfold sp_R
    by_cases hc : sp_R N O g n 8 n = 0 ∧ O 11 n = some g
    · rw [if_pos hc, sp_L8]
      by_cases hun : u = n
      · rw [if_pos hun, ← ih, hun]; omega
      · rw [if_neg hun]; exact ih
    · rw [if_neg hc]; exact ih
theorem sp_S_5 (g u : Nat) : (sp_S N O g 8 u < 5 ↔ N 8 u < 5) := by
  unfold sp_S
  by_cases hc : 0 < sp_g N O g
  · rw [if_pos hc]
  · rw [if_neg hc]; exact sp_R_5 g _ u
theorem sp_E_5 (hV : sp_V N O Z B) (ht : t < N 6 0) (h8 : N 8 t = 2) (u : Nat) : (sp_E N O t 6 8 u < 5 ↔ N 8 u < 5 ∧ u ≠ t) := by
  have hc4 : ∀ u, O 9 t = some u → N 8 u = 4 := fun u hu => hV.2.2.2.2.2.2.2.2.2.2.1 t u ht hu (by omega)
  have h1 : (sp_E2 N O t 6 8 u < 5 ↔ N 8 u < 5 ∧ u ≠ t) := by
    rw [sp_E2_8]
    by_cases h1 : O 9 t = some u
    · have h2 := hc4 u h1
      rw [if_pos h1]
      exact ⟨fun _ => ⟨by omega, fun z => by rw [z] at h2; omega⟩, fun _ => by decide⟩
    · rw [if_neg h1]
      by_cases h2 : u = t
      · rw [if_pos h2]
        exact ⟨fun z => by omega, fun z => absurd h2 z.2⟩
      · rw [if_neg h2]
        exact ⟨fun z => ⟨z, h2⟩, fun z => z.1⟩
  unfold sp_E
  cases ho : O 10 t with
  | none => exact h1
  | some g => exact (sp_S_5 g u).trans h1
theorem mt_bg {f : Nat} : ∀ {M : sp_N} {F : sp_O} {N' : sp_N}, cl_R M X F G N' O Z B → (∀ i, i ≠ 8 → i ≠ 12 → i ≠ 16 → N' i = N i) → sp_c (fun u => decide (N' 8 u < 5)) (N 6 0) < f → (cs_bg N f M X F).1 = am_st (sp_h (sp_bf O B f N') O B (sp_bf O B f N' 6 0)) ∧ cl_R (cs_bg N f M X F).2.1 (cs_bg N f M X F).2.2.1 (cs_bg N f M X F).2.2.2 G (sp_st (sp_bf O B f N') (sp_h (sp_bf O B f N') O B (sp_bf O B f N' 6 0))) O Z B := by
  induction f with
  | zero => intro M F N' _ _ hc; exact absurd hc (Nat.not_lt_zero _)
  | succ f ih =>
    intro M F N' h he hc
    have e1 := he 1 (by decide) (by decide) (by decide)
    have e2 := he 2 (by decide) (by decide) (by decide)
    have e6 := he 6 (by decide) (by decide) (by decide)
    have e7 := he 7 (by decide) (by decide) (by decide)
    have hh : cs_h M X F N (N 1 0) = sp_h N' O B (N' 6 0) := by
      rw [← cs_h_cg e1 e2 e7, ← e1]
      exact mr_h h.1 h.2.1 h.2.2.1
    unfold cs_bg sp_bf
    rw [hh]
    cases hs : sp_h N' O B (N' 6 0) with
    | none =>
      dsimp only
      rw [hs]
      exact ⟨rfl, h⟩
    | some t =>
      dsimp only
      have hst := sp_h_some hs
      have hx4 := (h.2.1.2.2.1 t hst.1).2.1
      rw [hx4]
      by_cases hb : B 15 t = true
      · rw [if_pos hb, if_pos hb]
        obtain ⟨k1, k2⟩ := mt_skip h hst.1 hst.2.1
        rw [e7, cs_cc_cg e6 e7] at k1
        refine ih k1 (fun i a b c => (k2 i a b c).trans (he i a b c)) ?_
        have h8 := (sp_m_1 hst.2.1).1
        have hE := sp_E_5 h.2.2.1 hst.1 h8
        have h1 : sp_c (fun u => decide (sp_E N' O t 6 8 u < 5)) (N 6 0) < sp_c (fun u => decide (N' 8 u < 5)) (N 6 0) := by
          refine sp_c_lt (a := t) (fun u _ hz => ?_) (by rw [← e6]; exact hst.1) ?_ ?_
          · exact decide_eq_true ((hE u).mp (of_decide_eq_true hz)).1
          · exact decide_eq_false (fun z => ((hE t).mp z).2 rfl)
          · exact decide_eq_true (by omega)
        omega
      · rw [if_neg hb, if_neg hb, hs]
        have k1 := mt_start h hst.1 hst.2.1
        rw [e7, cs_sM_cg e1 e2 e7, cs_sX_cg e7] at k1
        exact ⟨rfl, k1⟩
theorem mt_okb {f : Nat} : ∀ {M : sp_N} {F : sp_O} {N' : sp_N}, cl_R M X F G N' O Z B → (∀ i, i ≠ 8 → i ≠ 12 → i ≠ 16 → N' i = N i) → cs_okb N O f M X F ∧ sp_okb O B f N' := by
  induction f with
  | zero => intro M F N' h _; exact ⟨trivial, h.2.2.1.1.2.1⟩
  | succ f ih =>
    intro M F N' h he
    have e1 := he 1 (by decide) (by decide) (by decide)
    have e2 := he 2 (by decide) (by decide) (by decide)
    have e6 := he 6 (by decide) (by decide) (by decide)
    have e7 := he 7 (by decide) (by decide) (by decide)
    have hh : cs_h M X F N (N 1 0) = sp_h N' O B (N' 6 0) := by
      rw [← cs_h_cg e1 e2 e7, ← e1]
      exact mr_h h.1 h.2.1 h.2.2.1
    have step : ∀ t, sp_h N' O B (N' 6 0) = some t → B 15 t = true → cs_okb N O f (cs_cc (cs_xM M F (N 7 t)) (cs_xF F (N 7 t)) N t 6).1 X (cs_cc (cs_xM M F (N 7 t)) (cs_xF F (N 7 t)) N t 6).2 ∧ sp_okb O B f (sp_E N' O t 6) := by
      intro t hs hb
      have hst := sp_h_some hs
      obtain ⟨k1, k2⟩ := mt_skip h hst.1 hst.2.1
      rw [e7, cs_cc_cg e6 e7] at k1
      exact ih k1 (fun i a b c => (k2 i a b c).trans (he i a b c))
    refine ⟨⟨⟨h.2.2.2, fun t hs => ?_⟩, fun t hs hx => ?_⟩, h.2.2.1.1.2.1, fun t hs hb => (step t hs hb).2⟩
    · rw [hh] at hs
      have hst := sp_h_some hs
      obtain ⟨h8, ho⟩ := sp_m_1 hst.2.1
      have hj : N' 7 t < N' 1 0 := cl_hl h.1 hst.1
      have hxm := cs_xM_is h.2.1 hj ho
      have hd := h.2.1.2.1 _ hj
      rw [e7] at hxm hd hj
      rw [e1] at hj
      have h12 := cl_12 h.1
      have h160 := cl_160 h.1
      rw [e1] at h12
      refine ⟨by rw [← e6]; exact hst.1, fun _ => ?_, ?_, fun g hg => ?_, fun j hj' => ?_⟩
      · rw [hd.2.2.1]
        refine sp_c_pos.mpr ⟨t, hst.1, ?_⟩
        rw [h8, e7]; simp
      · rw [hxm]
        have := h.2.2.2 (8 + N 7 t) 6
        exact cl_B_u h.2.2.2 (by omega)
      · have hg4 := h.1.2.2.2.2.1 t g hst.1 hg
        rw [hxm, sp_u_n _ _ (Or.inl (by omega)), (h.2.1.2.2.2 g hg4).2]
        exact mt_om1 hst.1 (by omega) hg
      · rw [← e1] at hj'
        have hdj := h.2.1.2.1 j hj'
        have hle : sp_p N' j ≤ N' 6 0 := sp_c_le _ _
        rw [hxm, sp_u_n _ _ (Or.inr (by decide)), sp_u_n _ _ (Or.inr (by decide)), hdj.2.2.2.1]
        exact ⟨by omega, h.2.2.2 _ _⟩
    · rw [hh] at hs
      rw [(h.2.1.2.2.1 t (sp_h_some hs).1).2.1] at hx
      exact (step t hs hx).1
theorem mt_begin (h : cl_R M X F G N O Z B) : (cs_bg N 161 M X F).1 = am_begin N O B ∧ cl_R (cs_bg N 161 M X F).2.1 (cs_bg N 161 M X F).2.2.1 (cs_bg N 161 M X F).2.2.2 G (nm_begin N O B) O Z B := by
  have h160 := cl_160 h.1
  have h1 := sp_c_le (fun u => decide (N 8 u < 5)) (N 6 0)
  exact mt_bg h (fun _ _ _ _ => rfl) (by omega)
end MG
