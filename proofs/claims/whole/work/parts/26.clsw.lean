/-! Part 26: what the class's writers do to the maps. -/
theorem sp_u_k {α : Type} (N : Nat → Nat → α) (f j : Nat) (v : α) : sp_u N f j v f = va_up (N f) j v := by
  unfold sp_u
  rw [va_up_self]
section CSM
variable {M : sp_N} {X : sp_B} {F : sp_O} {N : sp_N} {O : sp_O} {B : sp_B}
theorem cl_S_M (h : cl_S M X F N O B) {k f v : Nat} (hf : f ≠ 0) (hk : k ≠ 0 ∨ (f ≠ 4 ∧ f ≠ 5)) : cl_S (sp_u M k f v) X F N O B := by
  obtain ⟨⟨a1, a2, a3, a4, a5⟩, b, c, d⟩ := h
  refine ⟨⟨a1, a2, ?_, ?_, a5⟩, fun j hj => ?_, fun t ht => ?_, d⟩
  · rw [sp_u_app, if_neg (by omega)]; exact a3
  · rw [sp_u_app, if_neg (by omega)]; exact a4
  · rw [sp_u_app, if_neg (by omega)]; exact b j hj
  · rw [sp_u_app, if_neg (by omega)]; exact c t ht
theorem cl_S_X (h : cl_S M X F N O B) {k f : Nat} {v : Bool} (hf : f ≠ 2) : cl_S M (sp_u X k f v) F N O B := by
  obtain ⟨a, b, c, d⟩ := h
  refine ⟨a, b, fun t ht => ?_, d⟩
  rw [sp_u_app, if_neg (by omega)]
  exact c t ht
/-- the first and the last of a line, the next in a line, what a block is held for -/
theorem cl_S_F (h : cl_S M X F N O B) {k f : Nat} {v : Option Nat} (hk : (∃ j, j < N 1 0 ∧ k = 8 + j ∧ (f = 4 ∨ f = 5)) ∨ (∃ t, t < N 6 0 ∧ k = 20 + t ∧ f = 10)) (hv : ∀ z, v = some z → ∃ t, t < N 6 0 ∧ z = 20 + t) : cl_S M X (sp_u F k f v) N O B := by
  obtain ⟨⟨a1, a2, a3, a4, a5, a6, a7⟩, b, c, d1, d2, d3, d4, d5, d6, d7⟩ := h
  have key : ∀ k' f', ¬ (k' = k ∧ f' = f) → sp_u F k f v k' f' = F k' f' := fun k' f' hn => by rw [sp_u_app, if_neg hn]
  have h12 := a1.2.1
  refine ⟨⟨a1, a2, a3, a4, ?_, ?_, ?_⟩, fun j hj => ?_, fun t ht => ?_, d1, d2, fun g hg => ?_, fun j z hj hz => ?_, fun j z hj hz => ?_, fun t z ht hz => ?_, fun t z ht hz => ?_⟩
  · rw [key _ _ (by omega)]; exact a5
  · rw [key _ _ (by omega)]; exact a6
  · rw [key _ _ (by omega)]; exact a7
  · rw [key _ _ (by omega), key _ _ (by omega)]; exact b j hj
  · rw [key _ _ (by omega), key _ _ (by omega), key _ _ (by omega), key _ _ (by omega)]; exact c t ht
  · rw [key _ _ (by omega)]; exact d3 g hg
  · rw [sp_u_app] at hz
    split at hz
    · exact hv z hz
    · exact d4 j z hj hz
  · rw [sp_u_app] at hz
    split at hz
    · exact hv z hz
    · exact d5 j z hj hz
  · rw [sp_u_app] at hz
    split at hz
    · exact hv z hz
    · exact d6 t z ht hz
  · rw [key _ _ (by omega)] at hz; exact d7 t z ht hz
end CSM
/-- append -/
def cs_aF (F : sp_O) (j t : Nat) : sp_O := match F (8 + j) 5 with
  | none => sp_u (sp_u F (8 + j) 4 (some (20 + t))) (8 + j) 5 (some (20 + t))
  | some k => sp_u (sp_u F k 10 (some (20 + t))) (8 + j) 5 (some (20 + t))
theorem cl_S_a {M : sp_N} {X : sp_B} {F : sp_O} {N : sp_N} {O : sp_O} {B : sp_B} (h : cl_S M X F N O B) {j t : Nat} (hj : j < N 1 0) (ht : t < N 6 0) : cl_S M X (cs_aF F j t) N O B := by
  unfold cs_aF
  cases hl : F (8 + j) 5 with
  | none => exact cl_S_F (cl_S_F h (Or.inl ⟨j, hj, rfl, Or.inl rfl⟩) (fun z hz => by cases hz; exact ⟨t, ht, rfl⟩)) (Or.inl ⟨j, hj, rfl, Or.inr rfl⟩) (fun z hz => by cases hz; exact ⟨t, ht, rfl⟩)
  | some k =>
    obtain ⟨u, hu, rfl⟩ := cl_ls h hj hl
    exact cl_S_F (cl_S_F h (Or.inr ⟨u, hu, rfl, rfl⟩) (fun z hz => by cases hz; exact ⟨t, ht, rfl⟩)) (Or.inl ⟨j, hj, rfl, Or.inr rfl⟩) (fun z hz => by cases hz; exact ⟨t, ht, rfl⟩)
/-- dropFirst -/
def cs_xF (F : sp_O) (j : Nat) : sp_O := match F (8 + j) 4 with
  | none => F
  | some k => match F k 10 with
    | none => sp_u (sp_u F (8 + j) 4 none) (8 + j) 5 none
    | some k2 => sp_u F (8 + j) 4 (some k2)
def cs_xM (M : sp_N) (F : sp_O) (j : Nat) : sp_N := match F (8 + j) 4 with
  | none => M
  | some _ => sp_u M (8 + j) 6 (M (8 + j) 6 - 1)
/-- line -/
def cs_lM (M : sp_N) (N : sp_N) (t : Nat) : sp_N := sp_u (sp_u (sp_u (sp_u M (20 + t) 3 2) (20 + t) 9 (M 0 7)) 0 7 (M 0 7 + 1)) (8 + N 7 t) 6 (M (8 + N 7 t) 6 + 1)
theorem cl_S_l {M : sp_N} {X : sp_B} {F : sp_O} {N : sp_N} {O : sp_O} {B : sp_B} (h : cl_S M X F N O B) {t : Nat} (ht : t < N 6 0) : cl_S (cs_lM M N t) X (cs_aF F (N 7 t) t) N O B := by
  unfold cs_lM
  exact cl_S_a (cl_S_M (cl_S_M (cl_S_M (cl_S_M h (by decide) (Or.inl (by omega))) (by decide) (Or.inl (by omega))) (by decide) (Or.inr ⟨by decide, by decide⟩)) (by decide) (Or.inl (by omega))) (cl_hl h ht) ht
/-- start: the counts of those on the way up -/
def cs_up (N : sp_N) (h : Nat) (K : sp_N) : sp_N := fun k f => if 8 ≤ k ∧ k < 8 + N 1 0 ∧ sp_l N h (k - 8) = true then (if f = 7 then K k 7 + 1 else if f = 8 then (if K k 8 ≤ K k 7 + 1 then K k 7 + 1 else K k 8) else K k f) else K k f
def cs_u1 (K : sp_N) (y : Nat) : sp_N := sp_u (sp_u K (8 + y) 7 (K (8 + y) 7 + 1)) (8 + y) 8 (if K (8 + y) 8 ≤ K (8 + y) 7 + 1 then K (8 + y) 7 + 1 else K (8 + y) 8)
theorem cs_up_eq {N : sp_N} (hT : sp_Tr N) (K : sp_N) {y : Nat} (hy : y < N 1 0) : cs_up N y K = if y < 3 then cs_u1 K y else cs_up N (N 2 y) (cs_u1 K y) := by
  funext k f
  by_cases h3 : y < 3
  · rw [if_pos h3]
    unfold cs_up cs_u1
    by_cases hk : 8 ≤ k ∧ k < 8 + N 1 0 ∧ sp_l N y (k - 8) = true
    · rw [if_pos hk]
      have h1 := hk.2.2
      rw [sp_l_eq hT hy] at h1
      have hyk : y = k - 8 := by
        by_cases q : y = k - 8
        · exact q
        · rw [if_neg q, if_pos h3] at h1; cases h1
      have hke : k = 8 + y := by omega
      subst hke
      rw [sp_u_app, sp_u_app]
      by_cases f7 : f = 7
      · subst f7; simp
      · by_cases f8 : f = 8
        · subst f8; simp
        · simp [f7, f8]
    · rw [if_neg hk, sp_u_app, if_neg, sp_u_app, if_neg]
      · rintro ⟨rfl, -⟩
        exact hk ⟨by omega, by omega, by rw [show 8 + y - 8 = y by omega]; exact sp_l_self N y⟩
      · rintro ⟨rfl, -⟩
        exact hk ⟨by omega, by omega, by rw [show 8 + y - 8 = y by omega]; exact sp_l_self N y⟩
  · rw [if_neg h3]
    have hno := sp_l_no hT (by omega) hy
    unfold cs_up cs_u1
    by_cases hky : k = 8 + y
    · subst hky
      rw [show 8 + y - 8 = y by omega, hno, sp_l_self]
      rw [if_pos ⟨by omega, by omega, rfl⟩, if_neg (show ¬ (8 ≤ 8 + y ∧ 8 + y < 8 + N 1 0 ∧ false = true) from fun q => by cases q.2.2)]
      by_cases f7 : f = 7
      · subst f7; simp [sp_u_app]
      · by_cases f8 : f = 8
        · subst f8; simp [sp_u_app]
        · simp [f7, f8, sp_u_app]
    · have e : ∀ f', sp_u (sp_u K (8 + y) 7 (K (8 + y) 7 + 1)) (8 + y) 8 (if K (8 + y) 8 ≤ K (8 + y) 7 + 1 then K (8 + y) 7 + 1 else K (8 + y) 8) k f' = K k f' := fun f' => by rw [sp_u_app, if_neg (fun q => hky q.1), sp_u_app, if_neg (fun q => hky q.1)]
      rw [e, e, e]
      by_cases hk : 8 ≤ k ∧ k < 8 + N 1 0
      · have e2 : sp_l N y (k - 8) = sp_l N (N 2 y) (k - 8) := by rw [sp_l_eq hT hy, if_neg (by omega), if_neg h3]
        rw [e2]
      · rw [if_neg (fun q => hk ⟨q.1, q.2.1⟩), if_neg (fun q => hk ⟨q.1, q.2.1⟩)]
/-- withdraw -/
def cs_dn (N : sp_N) (h : Nat) (K : sp_N) : sp_N := fun k f => if 8 ≤ k ∧ k < 8 + N 1 0 ∧ sp_l N h (k - 8) = true then (if f = 7 then K k 7 - 1 else K k f) else K k f
def cs_d1 (K : sp_N) (y : Nat) : sp_N := sp_u K (8 + y) 7 (K (8 + y) 7 - 1)
theorem cs_dn_eq {N : sp_N} (hT : sp_Tr N) (K : sp_N) {y : Nat} (hy : y < N 1 0) : cs_dn N y K = if y < 3 then cs_d1 K y else cs_dn N (N 2 y) (cs_d1 K y) := by
  funext k f
  by_cases h3 : y < 3
  · rw [if_pos h3]
    unfold cs_dn cs_d1
    by_cases hk : 8 ≤ k ∧ k < 8 + N 1 0 ∧ sp_l N y (k - 8) = true
    · rw [if_pos hk]
      have h1 := hk.2.2
      rw [sp_l_eq hT hy] at h1
      have hyk : y = k - 8 := by
        by_cases q : y = k - 8
        · exact q
        · rw [if_neg q, if_pos h3] at h1; cases h1
      have hke : k = 8 + y := by omega
      subst hke
      rw [sp_u_app]
      by_cases f7 : f = 7
      · subst f7; simp
      · simp [f7]
    · rw [if_neg hk, sp_u_app, if_neg]
      rintro ⟨rfl, -⟩
      exact hk ⟨by omega, by omega, by rw [show 8 + y - 8 = y by omega]; exact sp_l_self N y⟩
  · rw [if_neg h3]
    have hno := sp_l_no hT (by omega) hy
    unfold cs_dn cs_d1
    by_cases hky : k = 8 + y
    · subst hky
      rw [show 8 + y - 8 = y by omega, hno, sp_l_self]
      rw [if_pos ⟨by omega, by omega, rfl⟩, if_neg (show ¬ (8 ≤ 8 + y ∧ 8 + y < 8 + N 1 0 ∧ false = true) from fun q => by cases q.2.2)]
      by_cases f7 : f = 7
      · subst f7; simp [sp_u_app]
      · simp [f7, sp_u_app]
    · have e : ∀ f', sp_u K (8 + y) 7 (K (8 + y) 7 - 1) k f' = K k f' := fun f' => by rw [sp_u_app, if_neg (fun q => hky q.1)]
      rw [e, e]
      by_cases hk : 8 ≤ k ∧ k < 8 + N 1 0
      · have e2 : sp_l N y (k - 8) = sp_l N (N 2 y) (k - 8) := by rw [sp_l_eq hT hy, if_neg (by omega), if_neg h3]
        rw [e2]
      · rw [if_neg (fun q => hk ⟨q.1, q.2.1⟩), if_neg (fun q => hk ⟨q.1, q.2.1⟩)]
/-- start, withdraw as a whole -/
def cs_sM (M : sp_N) (F : sp_O) (N : sp_N) (t : Nat) : sp_N := cs_up N (N 7 t) (match F (20 + t) 5 with
  | none => sp_u (sp_u M (20 + t) 3 3) 0 6 (M 0 6 + 1)
  | some _ => sp_u M (20 + t) 3 3)
def cs_sX (X : sp_B) (N : sp_N) (t : Nat) : sp_B := if X (20 + t) 2 = true then sp_u X (8 + N 7 t) 9 true else X
def cs_wM (M : sp_N) (F : sp_O) (N : sp_N) (t : Nat) : sp_N := cs_dn N (N 7 t) (match F (20 + t) 5 with
  | none => sp_u M 0 6 (M 0 6 - 1)
  | some _ => M)
def cs_wX (X : sp_B) (N : sp_N) (t : Nat) : sp_B := if X (20 + t) 2 = true then sp_u X (8 + N 7 t) 9 false else X
/-- releaseIfEmpty -/
def cs_r (M : sp_N) (F : sp_O) (N : sp_N) (g : Nat) : Nat → sp_N × sp_O
  | 0 => (M, F)
  | i + 1 => if (cs_r M F N g i).1 (20 + i) 3 = 0 ∧ (cs_r M F N g i).2 (20 + i) 7 = some (4 + g) then (cs_lM (cs_r M F N g i).1 N i, cs_aF (cs_r M F N g i).2 (N 7 i) i) else cs_r M F N g i
def cs_R (M : sp_N) (F : sp_O) (N : sp_N) (g : Nat) : sp_N × sp_O := if M (4 + g) 0 = 0 ∧ M (4 + g) 1 = 0 then cs_r M F N g (N 6 0) else (M, F)
/-- conclude -/
def cs_c1 (M : sp_N) (F : sp_O) (t v : Nat) : sp_N := match F (20 + t) 5 with
  | none => sp_u M (20 + t) 3 v
  | some k => sp_u (sp_u M (20 + t) 3 v) k 3 3
def cs_cc (M : sp_N) (F : sp_O) (N : sp_N) (t v : Nat) : sp_N × sp_O := match F (20 + t) 6 with
  | none => (cs_c1 M F t v, F)
  | some k => cs_R (sp_u (cs_c1 M F t v) k 1 (M k 1 - 1)) F N (k - 4)
section CWW
variable {p : Program} {l : Launch} {e : Env} {R : Room} {s : State} {m : MethodId} {args : Array Value} {below : List Frame} {meth : Method} {c : Code} {H H0 : Heap} {locs : List Loc} {cells slots : Nat} {Q : State → Prop}
variable {cc bytes : ByteArray} {pc nL maxL index n : Nat} {ls : Array Slot} {rest st0 : List Value} {D : va_G} {ks : List Nat} {ad : Nat → Nat} {ca : Nat → ClassId} {M M' : sp_N} {X X' : sp_B} {F F' : sp_O} {G G' : sp_Z} {Ts ws : List Cond} {y : MethodName} {ret : Option FieldType} {rm : Room} {As : List Value} {own C : String} {T : u_T} {NF ci k : Nat} {fs : List Value}
/-- a call, inside the class, of a void method that writes -/
theorem cw_callwv (S : CallFix p m c cc nL s args Ts own) (hM : Met l y ws rm (va_Pc (.ref (ad k) :: As) (cw_U D ks ad ca M X F G)) (va_Qv (fun (_ : Unit) => True) (fun _ t => cw_U D ks ad ca M' X' F' G' t) (cw_A ks ad)) 0 0 (cw_A ks ad)) (cw : CallW R s args own C index y bytes maxL ret ws rm 0 0 n) (hK : va_K D vw_cl (cw_T ca) s) (hP : va_P D vw_cl (cw_W ks ad ca M X F G) H) (hS : va_S (cw_A ks ad) H0 H locs) (hk : k ∈ ks) (hE : cw_C ad ca k (M k) (X k) (F k) (G k) = .inr (ci, fs)) (hc : vw_cl[ci]? = some (C, T, NF)) (hn : As.length = n) (hsize : ls.size = nL) (hstack : st0 = As.reverse ++ .ref (ad k) :: rest) (hW : (rest.map fun v => v.category).sum ≤ 8) (hdg : decode cc pc = .ok (.invokevirtual index, 3)) (hf : cells ≤ R.cells ∧ slots ≤ R.slots)
    (kk : ∀ (H1 : Heap) (locs1 : List Loc), va_P D vw_cl (cw_W ks ad ca M' X' F' G') H1 → va_S (cw_A ks ad) H0 H1 locs1 → W p l e R s m args below meth c H1 locs1 cells slots Q (F0 m (pc + 3) ls rest)) : W p l e R s m args below meth c H locs cells slots Q (F0 m pc ls st0) := by
  subst hstack
  exact va_callv (va_runV S hM cw ⟨cw_blind D ks ad ca M X F G _, cw_recv hK hP hk hE hc, fun U hU hW => ⟨rfl, by rw [hU]; exact hP, va_K.moved hW.alike hK⟩⟩ rfl hn hsize rfl (lv_room hW) hdg hf) hS (fun q _ h => h) (fun q h => h) (fun u t H1 locs1 ht hvm hr hB hz hk hS1 => kk H1 locs1 (by rw [← ht]; exact hB.1) hS1)
end CWW
