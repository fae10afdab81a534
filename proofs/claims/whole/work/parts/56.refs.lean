/-! Part 56: references of live cells lead to live cells; counts of queues and blocks stand. -/
section CF
variable {ks : List Nat} {M : sp_N} {X : sp_B} {F F' : sp_O} {G : sp_Z} {N N' : sp_N} {O O' : sp_O} {Z Z' : sp_Z} {B : sp_B}
theorem cl_F_u (h : cl_F ks F) {k f : Nat} {v : Option Nat} (hv : ∀ z, v = some z → z ∈ ks) : cl_F ks (sp_u F k f v) := by
  intro a ha b z hz
  rw [sp_u_app] at hz
  split at hz
  · exact hv z hz
  · exact h a ha b z hz
theorem cl_F_a (h : cl_F ks F) {j t : Nat} (ht : 20 + t ∈ ks) : cl_F ks (cs_aF F j t) := by
  have hv : ∀ z, some (20 + t) = some z → z ∈ ks := fun z hz => by cases hz; exact ht
  unfold cs_aF
  cases F (8 + j) 5 with
  | none => exact cl_F_u (cl_F_u h hv) hv
  | some k => exact cl_F_u (cl_F_u h hv) hv
theorem cl_F_x (h : cl_F ks F) {j : Nat} (hj : 8 + j ∈ ks) : cl_F ks (cs_xF F j) := by
  unfold cs_xF
  cases h4 : F (8 + j) 4 with
  | none => exact h
  | some k =>
    have hk := h _ hj _ _ h4
    dsimp only
    cases h10 : F k 10 with
    | none => exact cl_F_u (cl_F_u h (fun z hz => by cases hz)) (fun z hz => by cases hz)
    | some k2 => exact cl_F_u h (fun z hz => by cases hz; exact h _ hk _ _ h10)
theorem cl_F_r (h : cl_F ks F) (hk : ∀ t, t < N 6 0 → 20 + t ∈ ks) (g : Nat) : ∀ n, n ≤ N 6 0 → cl_F ks (cs_r M F N g n).2
  | 0, _ => h
  | n + 1, hn => by
    have ih := cl_F_r h hk g n (by omega)
    unfold cs_r
    split
    · exact cl_F_a ih (hk n (by omega))
    · exact ih
theorem cl_F_R (h : cl_F ks F) (hk : ∀ t, t < N 6 0 → 20 + t ∈ ks) (g : Nat) : cl_F ks (cs_R M F N g).2 := by
  unfold cs_R
  split
  · exact cl_F_r h hk g _ (Nat.le_refl _)
  · exact h
theorem cl_F_c (h : cl_F ks F) (hk : ∀ t, t < N 6 0 → 20 + t ∈ ks) (t v : Nat) : cl_F ks (cs_cc M F N t v).2 := by
  unfold cs_cc
  cases F (20 + t) 6 with
  | none => exact h
  | some k => exact cl_F_R h hk _
theorem cl_F_leave (h : cl_F ks F) (hk : cl_k ks N) (g : Option Nat) : cl_F ks (cn_leave M F N g).2 := by
  unfold cn_leave
  cases g with
  | none => exact h
  | some k =>
    dsimp only
    split
    · exact h
    · exact cl_F_R h hk.2.2 k
theorem cl_F_finish (h : cl_F ks F) (hk : cl_k ks N) (o : Option Nat) : cl_F ks (cn_finish M F N o).2 := by
  unfold cn_finish
  cases o with
  | none => exact h
  | some a =>
    dsimp only
    split
    · exact cl_F_c h hk.2.2 a 5
    · exact h
theorem cl_F_retarget (h : cl_F ks F) (hk : cl_k ks N) (q : Option Nat) {t : Option Nat} (ht : ∀ k, t = some k → k < N 1 0) : cl_F ks (cf_retarget M F N q t) := by
  unfold cf_retarget
  cases q with
  | none => exact h
  | some a =>
    dsimp only
    split
    · exact h
    · cases t with
      | none => exact h
      | some b =>
        dsimp only
        split
        · exact h
        · split
          · exact h
          · exact cl_F_u h (fun z hz => by cases hz; exact hk.2.1 b (ht b rfl))
theorem cl_F_bg0 (hk : cl_k ks N) (hh : ∀ t, t < N 6 0 → N 7 t < N 1 0) {f : Nat} : ∀ {M : sp_N} {F : sp_O}, cl_F ks F → (∀ (M : sp_N) (F : sp_O) (t : Nat), cs_h M X F N (N 1 0) = some t → cl_F ks F → 8 + N 7 t ∈ ks) → cl_F ks (cs_bg N f M X F).2.2.2 := by
  induction f with
  | zero => intro M F h _; exact h
  | succ f ih =>
    intro M F h hq
    unfold cs_bg
    cases hc : cs_h M X F N (N 1 0) with
    | none => exact h
    | some t =>
      have h1 := hq M F t hc h
      dsimp only
      split
      · exact ih (cl_F_c (cl_F_x h h1) hk.2.2 t 6) hq
      · exact cl_F_x h h1
theorem cs_h_in {M : sp_N} {F : sp_O} {t : Nat} : ∀ n, cs_h M X F N n = some t → ∃ j, j < n ∧ cs_f F j = some t
  | 0, h => by cases h
  | n + 1, h => by
    have h : cs_g M X F N (cs_h M X F N n) (cs_f F n) = some t := h
    unfold cs_g at h
    cases hf : cs_f F n with
    | none =>
      rw [hf] at h
      obtain ⟨j, hj, hq⟩ := cs_h_in n h
      exact ⟨j, by omega, hq⟩
    | some u =>
      rw [hf] at h
      dsimp only at h
      split at h
      · cases h
        exact ⟨n, by omega, hf⟩
      · obtain ⟨j, hj, hq⟩ := cs_h_in n h
        exact ⟨j, by omega, hq⟩
theorem cl_F_bg {f : Nat} : ∀ {M : sp_N} {F : sp_O} {N' : sp_N}, cl_R M X F G N' O Z B → (∀ i, i ≠ 8 → i ≠ 12 → i ≠ 16 → N' i = N i) → cl_k ks N → cl_F ks F → cl_F ks (cs_bg N f M X F).2.2.2 := by
  induction f with
  | zero => intro M F N' _ _ _ h; exact h
  | succ f ih =>
    intro M F N' hR he hk h
    have e1 := he 1 (by decide) (by decide) (by decide)
    have e2 := he 2 (by decide) (by decide) (by decide)
    have e6 := he 6 (by decide) (by decide) (by decide)
    have e7 := he 7 (by decide) (by decide) (by decide)
    have hh : cs_h M X F N (N 1 0) = sp_h N' O B (N' 6 0) := by
      rw [← cs_h_cg e1 e2 e7, ← e1]
      exact mr_h hR.1 hR.2.1 hR.2.2.1
    unfold cs_bg
    rw [hh]
    cases hs : sp_h N' O B (N' 6 0) with
    | none => exact h
    | some t =>
      have hst := sp_h_some hs
      have h7 := cl_hl hR.1 hst.1
      rw [e7, e1] at h7
      have h1 := hk.2.1 _ h7
      obtain ⟨k1, k2⟩ := mt_skip hR hst.1 hst.2.1
      rw [e7, cs_cc_cg e6 e7] at k1
      dsimp only
      split
      · exact ih k1 (fun i a b c => (k2 i a b c).trans (he i a b c)) hk (cl_F_c (cl_F_x h h1) hk.2.2 t 6)
      · exact cl_F_x h h1
theorem cl_F_av (hk : cl_k ks N) {f : Nat} : ∀ {M : sp_N} {F : sp_O}, cl_F ks F → cl_F ks (cs_av N G f M F).2 := by
  induction f with
  | zero => intro M F h; exact h
  | succ f ih =>
    intro M F h
    unfold cs_av
    cases hc : cs_d M G (N 6 0) with
    | none => exact h
    | some t => exact ih (cl_F_a h (hk.2.2 t (cs_d_lt hc)))
/-- what stands -/
theorem sp_R_e (g : Nat) : ∀ (n : Nat) {f : Nat}, f ≠ 8 → f ≠ 12 → f ≠ 16 → sp_R N O g n f = N f
  | 0, _, _, _, _ => rfl
  | n + 1, f, a, b, c => by
    unfold sp_R
    split
    · rw [sp_L_e _ _ a b c]; exact sp_R_e g n a b c
    · exact sp_R_e g n a b c
theorem sp_S_e (g : Nat) {f : Nat} (a : f ≠ 8) (b : f ≠ 12) (c : f ≠ 16) : sp_S N O g f = N f := by
  unfold sp_S
  split
  · rfl
  · exact sp_R_e g _ a b c
theorem sp_E_e (t how : Nat) {f : Nat} (a : f ≠ 8) (b : f ≠ 12) (c : f ≠ 16) : sp_E N O t how f = N f := by
  unfold sp_E
  cases O 10 t with
  | none => exact sp_E2_e N O t how a
  | some g => exact (sp_S_e g a b c).trans (sp_E2_e N O t how a)
theorem sp_bf_e {f : Nat} (a : f ≠ 8) (b : f ≠ 12) (c : f ≠ 16) : ∀ (n : Nat) (N : sp_N), sp_bf O B n N f = N f
  | 0, _ => rfl
  | n + 1, N => by
    unfold sp_bf
    cases sp_h N O B (N 6 0) with
    | none => rfl
    | some t =>
      dsimp only
      split
      · rw [sp_bf_e a b c n]; exact sp_E_e t 6 a b c
      · rfl
theorem nm_begin_e {f : Nat} (a : f ≠ 8) (b : f ≠ 12) (c : f ≠ 16) (d : f ≠ 5) : nm_begin N O B f = N f := by
  unfold nm_begin
  generalize hK : sp_h (sp_bf O B 161 N) O B (sp_bf O B 161 N 6 0) = o
  cases o with
  | none => exact sp_bf_e a b c _ N
  | some t =>
    show sp_pk (sp_u (sp_bf O B 161 N) 8 t 3) (sp_bf O B 161 N 1 0) f = N f
    rw [sp_pk_e _ _ d, sp_u_f _ _ _ a]
    exact sp_bf_e a b c _ N
theorem sp_av_e {f : Nat} (a : f ≠ 8) (b : f ≠ 12) (c : f ≠ 16) : ∀ (n : Nat) (N : sp_N), sp_av Z n N f = N f
  | 0, _ => rfl
  | n + 1, N => by
    unfold sp_av
    cases sp_d N Z (N 6 0) with
    | none => rfl
    | some t =>
      dsimp only
      rw [sp_av_e a b c n]
      exact sp_L_e _ _ a b c
theorem nm_enter_e (o : Option Nat) {f : Nat} (h : f = 1 ∨ f = 6) : nm_enter N o f 0 = N f 0 := by
  cases o with
  | none => rfl
  | some k =>
    show (if N 17 k < 200 then sp_u N 17 k (N 17 k + 1) else N) f 0 = N f 0
    split
    · exact sp_u_n _ _ (Or.inl (by omega))
    · rfl
theorem nm_hold_e (o : Option Nat) (on : Bool) {f : Nat} (h : f = 1 ∨ f = 6) : nm_hold N o on f 0 = N f 0 := by
  cases o with
  | none => rfl
  | some a =>
    show (if a < 3 then N else if on = true then if N 4 a = 100 then N else sp_u N 4 a (N 4 a + 1) else if N 4 a = 0 then N else sp_u N 4 a (N 4 a - 1)) f 0 = N f 0
    split
    · rfl
    · split
      · split
        · rfl
        · exact sp_u_n _ _ (Or.inl (by omega))
      · split
        · rfl
        · exact sp_u_n _ _ (Or.inl (by omega))
theorem nm_retarget_e (o q : Option Nat) {f : Nat} (h : f = 1 ∨ f = 6) : nm_retarget N o q f 0 = N f 0 := by
  cases o with
  | none => rfl
  | some a =>
    cases q with
    | none =>
      show (if a < 3 then N else N) f 0 = N f 0
      split <;> rfl
    | some b =>
      show (if a < 3 then N else if sp_l N b a = true then N else if 0 < sp_p N a then N else sp_u N 2 a b) f 0 = N f 0
      split
      · rfl
      · split
        · rfl
        · split
          · rfl
          · exact sp_u_n _ _ (Or.inl (by omega))
theorem nm_leave_e (o : Option Nat) {f : Nat} (h : f = 1 ∨ f = 6) : nm_leave N O o f 0 = N f 0 := by
  cases o with
  | none => rfl
  | some k =>
    show (if N 17 k = 0 then N else sp_S (sp_u N 17 k (N 17 k - 1)) O k) f 0 = N f 0
    split
    · rfl
    · rw [sp_S_e k (by omega) (by omega) (by omega)]
      exact sp_u_n _ _ (Or.inl (by omega))
theorem nm_finish_e (o : Option Nat) {f : Nat} (h : f = 1 ∨ f = 6) : nm_finish N O o f 0 = N f 0 := by
  cases o with
  | none => rfl
  | some a =>
    show (if N 8 a = 3 then sp_E N O a 5 else N) f 0 = N f 0
    split
    · rw [sp_E_e a 5 (by omega) (by omega) (by omega)]
    · rfl
theorem nm_adv_e (d : Int64) {f : Nat} (h : f = 1 ∨ f = 6) : nm_adv N Z d f 0 = N f 0 := by
  unfold nm_adv
  split
  · rfl
  · rw [sp_av_e (by omega) (by omega) (by omega)]
end CF
