/-! Part 59: live references, with a new key. -/
section CF2
variable {ks : List Nat} {M : sp_N} {X : sp_B} {F F' : sp_O} {G : sp_Z} {N N' : sp_N} {O O' : sp_O} {Z Z' : sp_Z} {B : sp_B}
theorem cl_F_A (h : cl_F ks F) (hk : cl_k ks N) {n a : Nat} (ha : a < N 1 0) : cl_F (ks ++ [20 + n]) (cs_AF F n a) := by
  have hin : 20 + n ∈ ks ++ [20 + n] := List.mem_append_right _ (List.mem_singleton.mpr rfl)
  refine cl_F_u ?_ (fun z hz => by cases hz; exact hin)
  intro k hk9 f z hz
  by_cases hkn : k = 20 + n
  · rw [hkn, cs_nF, va_up_self] at hz
    split at hz
    · cases hz; exact List.mem_append_left _ (hk.2.1 a ha)
    · cases hz
  · rw [cs_nF_ne _ _ _ hkn] at hz
    rcases List.mem_append.mp hk9 with q | q
    · exact List.mem_append_left _ (h k q f z hz)
    · exact absurd (List.mem_singleton.mp q) hkn
def cl_U (ks : List Nat) (nk : Nat) (u : cw_T5) : Prop := (u.1 = ks ∨ u.1 = ks ++ [nk]) ∧ cl_F u.1 u.2.2.2.1
theorem cl_U_submit (h : cl_F ks F) (hk : cl_k ks N) {q : Option Nat} (hq : ∀ k, q = some k → k < N 1 0) {g : Option (Option Nat)} (hg : ∀ k, g = some (some k) → k < 4) (bar : Bool) : cl_U ks (20 + N 6 0) (cu_submit ks M X F G N bar q g) := by
  cases q with
  | none => exact ⟨Or.inl rfl, h⟩
  | some a =>
    cases g with
    | none => exact ⟨Or.inl rfl, h⟩
    | some o =>
      unfold cu_submit
      dsimp only
      split
      · exact ⟨Or.inl rfl, h⟩
      · have h1 := cl_F_A (n := N 6 0) h hk (hq a rfl)
        have hin : 20 + N 6 0 ∈ ks ++ [20 + N 6 0] := List.mem_append_right _ (List.mem_singleton.mpr rfl)
        refine ⟨Or.inr rfl, cl_F_a ?_ hin⟩
        cases o with
        | none => exact h1
        | some k => exact cl_F_u h1 (fun z hz => by cases hz; exact List.mem_append_left _ (hk.1 _ (by have := hg k rfl; omega)))
theorem cl_U_after (h : cl_F ks F) (hk : cl_k ks N) {q : Option Nat} (hq : ∀ k, q = some k → k < N 1 0) (d : Int64) : cl_U ks (20 + N 6 0) (cu_after ks M X F G N d q) := by
  cases q with
  | none => exact ⟨Or.inl rfl, h⟩
  | some a =>
    unfold cu_after
    dsimp only
    have hin : 20 + N 6 0 ∈ ks ++ [20 + N 6 0] := List.mem_append_right _ (List.mem_singleton.mpr rfl)
    split
    · exact ⟨Or.inl rfl, h⟩
    · have h1 := cl_F_A (n := N 6 0) h hk (hq a rfl)
      split
      · exact ⟨Or.inr rfl, cl_F_a h1 hin⟩
      · exact ⟨Or.inr rfl, h1⟩
theorem cl_U_call (h : cl_F ks F) (hk : cl_k ks N) {o : Option (Nat × Nat)} (ho : ∀ a b, o = some (a, b) → a < N 6 0 ∧ b < N 1 0) (bar : Bool) : cl_U ks (20 + N 6 0) (cu_call ks M X F G N bar o) := by
  cases o with
  | none => exact ⟨Or.inl rfl, h⟩
  | some ab =>
    obtain ⟨a, b⟩ := ab
    have hin : 20 + N 6 0 ∈ ks ++ [20 + N 6 0] := List.mem_append_right _ (List.mem_singleton.mpr rfl)
    have h1 := cl_F_A (n := N 6 0) h hk (ho a b rfl).2
    exact ⟨Or.inr rfl, cl_F_a (cl_F_u h1 (fun z hz => by cases hz; exact List.mem_append_left _ (hk.2.2 a (ho a b rfl).1))) hin⟩
theorem cl_U_when (h : cl_F ks F) (hk : cl_k ks N) {g q : Option Nat} (hg : ∀ k, g = some k → k < 4) (hq : ∀ k, q = some k → k < N 1 0) : cl_U ks (20 + N 6 0) (cu_when ks M X F G N g q) := by
  cases g with
  | none => exact ⟨Or.inl rfl, h⟩
  | some k =>
    cases q with
    | none => exact ⟨Or.inl rfl, h⟩
    | some a =>
      unfold cu_when
      dsimp only
      have hin : 20 + N 6 0 ∈ ks ++ [20 + N 6 0] := List.mem_append_right _ (List.mem_singleton.mpr rfl)
      split
      · exact ⟨Or.inl rfl, h⟩
      · have h1 := cl_F_A (n := N 6 0) h hk (hq a rfl)
        split
        · exact ⟨Or.inr rfl, cl_F_a h1 hin⟩
        · exact ⟨Or.inr rfl, cl_F_u h1 (fun z hz => by cases hz; exact List.mem_append_left _ (hk.1 _ (by have := hg k rfl; omega)))⟩
theorem cl_U_queue (h : cl_F ks F) (hk : cl_k ks N) {q : Option Nat} (hq : ∀ k, q = some k → k < N 1 0) (w : Option Nat) : cl_U ks (8 + N 1 0) (cu_queue ks M X F G N q w) := by
  cases q with
  | none => exact ⟨Or.inl rfl, h⟩
  | some a =>
    cases w with
    | none => exact ⟨Or.inl rfl, h⟩
    | some b =>
      unfold cu_queue
      dsimp only
      have hin : 8 + N 1 0 ∈ ks ++ [8 + N 1 0] := List.mem_append_right _ (List.mem_singleton.mpr rfl)
      split
      · exact ⟨Or.inl rfl, h⟩
      · refine ⟨Or.inr rfl, cl_F_u ?_ (fun z hz => by cases hz; exact hin)⟩
        intro k hk9 f z hz
        by_cases hkn : k = 8 + N 1 0
        · rw [hkn, cs_qF, va_up_self] at hz
          split at hz
          · cases hz; exact List.mem_append_left _ (hk.2.1 a (hq a rfl))
          · cases hz
        · rw [cs_qF_ne _ _ _ hkn] at hz
          rcases List.mem_append.mp hk9 with q | q
          · exact List.mem_append_left _ (h k q f z hz)
          · exact absurd (List.mem_singleton.mp q) hkn
theorem cl_F_0 : cl_F c0_ks c0_F := by
  intro k _ f z hz
  unfold c0_F at hz
  repeat' split at hz
  all_goals first | (cases hz; decide) | cases hz
theorem cw_C_cg {ad ad' : Nat → Nat} {ff : Nat → Option Nat} (h : ∀ f, (ff f).map ad' = (ff f).map ad) (ca : Nat → ClassId) (k : Nat) (mm : Nat → Nat) (xx : Nat → Bool) (gg : Nat → Int64) : cw_C ad' ca k mm xx ff gg = cw_C ad ca k mm xx ff gg := by
  unfold cw_C cw_fM cw_fQ cw_fB
  simp only [h]
theorem cw_W_cg {ad ad' : Nat → Nat} (h : ∀ k, k ∈ ks → ad' k = ad k) (hF : cl_F ks F) (cb : Nat → ClassId) : cw_W ks ad' cb M X F G = cw_W ks ad cb M X F G := by
  unfold cw_W
  refine List.map_congr_left (fun k hk => ?_)
  rw [h k hk, cw_C_cg (ad := ad) (fun f => ?_)]
  cases hz : F k f with
  | none => rfl
  | some z =>
    show some (ad' z) = some (ad z)
    rw [h z (hF k hk f z hz)]
theorem cw_J_up {ad : Nat → Nat} {nk sz : Nat} (hJ : cw_J ks ad) (hn : nk ∉ ks) (hsz : ∀ k, k ∈ ks → ad k < sz) : cw_J (ks ++ [nk]) (va_up ad nk sz) := by
  intro i j a b hi hj hab
  have key : ∀ (x : Nat) (y : Nat), (ks ++ [nk])[x]? = some y → (ks[x]? = some y ∧ y ∈ ks ∧ va_up ad nk sz y = ad y) ∨ (x = ks.length ∧ y = nk) := by
    intro x y hxy
    by_cases hx : x < ks.length
    · rw [List.getElem?_append_left hx] at hxy
      have hm := List.mem_of_getElem? hxy
      exact Or.inl ⟨hxy, hm, va_up_ne _ _ (fun z => hn (by rw [← z]; exact hm))⟩
    · rw [List.getElem?_append_right (by omega)] at hxy
      by_cases hx2 : x - ks.length = 0
      · rw [hx2] at hxy
        exact Or.inr ⟨by omega, (Option.some.inj hxy).symm⟩
      · rw [List.getElem?_eq_none (by simp; omega)] at hxy
        cases hxy
  rcases key i a hi with ⟨p1, p2, p3⟩ | ⟨p1, p2⟩
  · rcases key j b hj with ⟨q1, q2, q3⟩ | ⟨q1, q2⟩
    · rw [p3, q3] at hab
      exact hJ i j a b p1 q1 hab
    · rw [p3, q2, va_up_self] at hab
      have := hsz a p2
      omega
  · rcases key j b hj with ⟨q1, q2, q3⟩ | ⟨q1, q2⟩
    · rw [q3, p2, va_up_self] at hab
      have := hsz b q2
      omega
    · omega
end CF2
