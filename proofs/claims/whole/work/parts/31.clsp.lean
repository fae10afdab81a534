/-! Part 31: what the class's public methods do to the maps. -/
def cm_retarget (M : sp_N) (N : sp_N) (q t : Option Nat) : Int32 := match q with
  | none => -1
  | some a => if a < 3 then -1 else match t with
    | none => -1
    | some b => if sp_l N b a = true then -5 else if 0 < M (8 + a) 7 then -6 else nI 0
def cf_retarget (M : sp_N) (F : sp_O) (N : sp_N) (q t : Option Nat) : sp_O := match q with
  | none => F
  | some a => if a < 3 then F else match t with
    | none => F
    | some b => if sp_l N b a = true then F else if 0 < M (8 + a) 7 then F else sp_u F (8 + a) 2 (some (8 + b))
def cm_enter (M : sp_N) (g : Option Nat) : Bool := match g with
  | none => false
  | some k => decide (M (4 + k) 0 < 200)
def cn_enter (M : sp_N) (g : Option Nat) : sp_N := match g with
  | none => M
  | some k => if M (4 + k) 0 < 200 then sp_u M (4 + k) 0 (M (4 + k) 0 + 1) else M
def cm_leave (M : sp_N) (g : Option Nat) : Bool := match g with
  | none => false
  | some k => !decide (M (4 + k) 0 = 0)
def cn_leave (M : sp_N) (F : sp_O) (N : sp_N) (g : Option Nat) : sp_N × sp_O := match g with
  | none => (M, F)
  | some k => if M (4 + k) 0 = 0 then (M, F) else cs_R (sp_u M (4 + k) 0 (M (4 + k) 0 - 1)) F N k
def cm_cancel (M : sp_N) (X : sp_B) (t : Option Nat) : Bool := match t with
  | none => false
  | some a => !X (20 + a) 4 && decide (M (20 + a) 3 < 3)
def cx_cancel (M : sp_N) (X : sp_B) (t : Option Nat) : sp_B := match t with
  | none => X
  | some a => if X (20 + a) 4 = true then X else if M (20 + a) 3 < 3 then sp_u X (20 + a) 4 true else X
def cm_hold (M : sp_N) (q : Option Nat) (on : Bool) : Int32 := match q with
  | none => -1
  | some a => if a < 3 then -1 else if on = true then if M (8 + a) 3 < 100 then nI (M (8 + a) 3 + 1) else -4 else if M (8 + a) 3 = 0 then -8 else nI (M (8 + a) 3 - 1)
def cn_hold (M : sp_N) (q : Option Nat) (on : Bool) : sp_N := match q with
  | none => M
  | some a => if a < 3 then M else if on = true then if M (8 + a) 3 < 100 then sp_u M (8 + a) 3 (M (8 + a) 3 + 1) else M else if M (8 + a) 3 = 0 then M else sp_u M (8 + a) 3 (M (8 + a) 3 - 1)
def cm_finish (M : sp_N) (t : Option Nat) : Bool := match t with
  | none => false
  | some a => decide (M (20 + a) 3 = 3)
def cn_finish (M : sp_N) (F : sp_O) (N : sp_N) (t : Option Nat) : sp_N × sp_O := match t with
  | none => (M, F)
  | some a => if M (20 + a) 3 = 3 then cs_cc (cs_wM M F N a) F N a 5 else (M, F)
def cx_finish (M : sp_N) (X : sp_B) (N : sp_N) (t : Option Nat) : sp_B := match t with
  | none => X
  | some a => if M (20 + a) 3 = 3 then cs_wX X N a else X
section CSP
variable {M : sp_N} {X : sp_B} {F : sp_O} {N : sp_N} {O : sp_O} {B : sp_B}
/-- what leaves the standing part alone -/
theorem cl_S_Mg (h : cl_S M X F N O B) {K : sp_N} (h4 : K 0 4 = M 0 4) (h5 : K 0 5 = M 0 5) (hq : ∀ j, K (8 + j) 0 = M (8 + j) 0) (hb : ∀ t, K (20 + t) 0 = M (20 + t) 0) : cl_S K X F N O B := by
  obtain ⟨⟨a1, a2, a3, a4, a5⟩, b, c, d⟩ := h
  refine ⟨⟨a1, a2, h4.trans a3, h5.trans a4, a5⟩, fun j hj => ?_, fun t ht => ?_, d⟩
  · rw [hq j]; exact b j hj
  · rw [hb t]; exact c t ht
theorem cl_S_up (h : cl_S M X F N O B) (y : Nat) : cl_S (cs_up N y M) X F N O B := by
  have key : ∀ k f, f ≠ 7 → f ≠ 8 → cs_up N y M k f = M k f := fun k f h7 h8 => by
    unfold cs_up
    rw [if_neg h7, if_neg h8]
    split <;> rfl
  exact cl_S_Mg h (key _ _ (by decide) (by decide)) (key _ _ (by decide) (by decide)) (fun j => key _ _ (by decide) (by decide)) (fun t => key _ _ (by decide) (by decide))
theorem cl_S_dn (h : cl_S M X F N O B) (y : Nat) : cl_S (cs_dn N y M) X F N O B := by
  have key : ∀ k f, f ≠ 7 → cs_dn N y M k f = M k f := fun k f h7 => by
    unfold cs_dn
    rw [if_neg h7]
    split <;> rfl
  exact cl_S_Mg h (key _ _ (by decide)) (key _ _ (by decide)) (fun j => key _ _ (by decide)) (fun t => key _ _ (by decide))
theorem cl_S_s (h : cl_S M X F N O B) (t : Nat) : cl_S (cs_sM M F N t) (cs_sX X N t) F N O B := by
  have h1 : cl_S M (cs_sX X N t) F N O B := by
    unfold cs_sX
    split
    · exact cl_S_X h (by decide)
    · exact h
  unfold cs_sM
  apply cl_S_up
  cases F (20 + t) 5 with
  | none => exact cl_S_M (cl_S_M h1 (by decide) (Or.inl (by omega))) (by decide) (Or.inr ⟨by decide, by decide⟩)
  | some k => exact cl_S_M h1 (by decide) (Or.inl (by omega))
theorem cl_S_w (h : cl_S M X F N O B) (t : Nat) : cl_S (cs_wM M F N t) (cs_wX X N t) F N O B := by
  have h1 : cl_S M (cs_wX X N t) F N O B := by
    unfold cs_wX
    split
    · exact cl_S_X h (by decide)
    · exact h
  unfold cs_wM
  apply cl_S_dn
  cases F (20 + t) 5 with
  | none => exact cl_S_M h1 (by decide) (Or.inr ⟨by decide, by decide⟩)
  | some k => exact h1
theorem cl_S_r (h : cl_S M X F N O B) (g : Nat) : ∀ n, n ≤ N 6 0 → cl_S (cs_r M F N g n).1 X (cs_r M F N g n).2 N O B
  | 0, _ => h
  | n + 1, hn => by
    have ih := cl_S_r h g n (by omega)
    unfold cs_r
    split
    · exact cl_S_l ih (by omega)
    · exact ih
theorem cl_S_R (h : cl_S M X F N O B) (g : Nat) : cl_S (cs_R M F N g).1 X (cs_R M F N g).2 N O B := by
  unfold cs_R
  split
  · exact cl_S_r h g _ (Nat.le_refl _)
  · exact h
theorem cl_S_c (h : cl_S M X F N O B) {t : Nat} (ht : t < N 6 0) (v : Nat) : cl_S (cs_cc M F N t v).1 X (cs_cc M F N t v).2 N O B := by
  have h1 : cl_S (cs_c1 M F t v) X F N O B := by
    unfold cs_c1
    cases hc : F (20 + t) 5 with
    | none => exact cl_S_M h (by decide) (Or.inl (by omega))
    | some k =>
      obtain ⟨c, -, -, rfl⟩ := cl_cs h ht hc
      exact cl_S_M (cl_S_M h (by decide) (Or.inl (by omega))) (by decide) (Or.inl (by omega))
  unfold cs_cc
  cases hm : F (20 + t) 6 with
  | none => exact h1
  | some k =>
    obtain ⟨g, -, -, rfl⟩ := cl_ms h ht hm
    exact cl_S_R (cl_S_M h1 (by decide) (Or.inl (by omega))) _
/-- dropFirst -/
theorem cl_S_x (h : cl_S M X F N O B) {j : Nat} (hj : j < N 1 0) : cl_S (cs_xM M F j) X (cs_xF F j) N O B := by
  unfold cs_xM cs_xF
  cases hf : F (8 + j) 4 with
  | none => exact h
  | some k =>
    obtain ⟨t, ht, rfl⟩ := cl_fs h hj hf
    simp only []
    cases hy : F (20 + t) 10 with
    | none => exact cl_S_M (cl_S_F (cl_S_F h (Or.inl ⟨j, hj, rfl, Or.inl rfl⟩) (fun z hz => by cases hz)) (Or.inl ⟨j, hj, rfl, Or.inr rfl⟩) (fun z hz => by cases hz)) (by decide) (Or.inl (by omega))
    | some k2 =>
      obtain ⟨u, hu, rfl⟩ := cl_ys h ht hy
      exact cl_S_M (cl_S_F h (Or.inl ⟨j, hj, rfl, Or.inl rfl⟩) (fun z hz => by cases hz; exact ⟨u, hu, rfl⟩)) (by decide) (Or.inl (by omega))
end CSP
/-- begin: fuel, then the maps; the answer, then the maps -/
def cs_bg (N : sp_N) : Nat → sp_N → sp_B → sp_O → Int32 × sp_N × sp_B × sp_O
  | 0, M, X, F => (-8, M, X, F)
  | f + 1, M, X, F => match cs_h M X F N (N 1 0) with
    | none => (-8, M, X, F)
    | some t => if X (20 + t) 4 = true then cs_bg N f (cs_cc (cs_xM M F (N 7 t)) (cs_xF F (N 7 t)) N t 6).1 X (cs_cc (cs_xM M F (N 7 t)) (cs_xF F (N 7 t)) N t 6).2
      else (nI t, cs_sM (cs_xM M F (N 7 t)) (cs_xF F (N 7 t)) N t, cs_sX X N t, cs_xF F (N 7 t))
/-- what one turn of begin asks of the maps -/
def cs_ob (N : sp_N) (O : sp_O) (M : sp_N) (X : sp_B) (F : sp_O) : Prop := cl_B M ∧ ∀ t, cs_h M X F N (N 1 0) = some t → t < N 6 0 ∧ (F (8 + N 7 t) 4 ≠ none → 1 ≤ M (8 + N 7 t) 6) ∧ cl_B (cs_xM M F (N 7 t)) ∧ (∀ g, O 10 t = some g → 1 ≤ cs_xM M F (N 7 t) (4 + g) 1) ∧ (∀ j, j < N 1 0 → cs_xM M F (N 7 t) (8 + j) 7 + 1 < 2 ^ 31 ∧ cs_xM M F (N 7 t) (8 + j) 8 < 2 ^ 31)
def cs_okb (N : sp_N) (O : sp_O) : Nat → sp_N → sp_B → sp_O → Prop
  | 0, _, _, _ => True
  | f + 1, M, X, F => cs_ob N O M X F ∧ ∀ t, cs_h M X F N (N 1 0) = some t → X (20 + t) 4 = true → cs_okb N O f (cs_cc (cs_xM M F (N 7 t)) (cs_xF F (N 7 t)) N t 6).1 X (cs_cc (cs_xM M F (N 7 t)) (cs_xF F (N 7 t)) N t 6).2
/-- advance -/
def cg_adv (G : sp_Z) (d : Int64) : sp_Z := if d < 0 then G else sp_u G 0 8 (G 0 8 + (if 9223372036854775806 - G 0 8 < d then 9223372036854775806 - G 0 8 else d))
def cs_av (N : sp_N) (G : sp_Z) : Nat → sp_N → sp_O → sp_N × sp_O
  | 0, M, F => (M, F)
  | f + 1, M, F => match cs_d M G (N 6 0) with
    | none => (M, F)
    | some t => cs_av N G f (cs_lM M N t) (cs_aF F (N 7 t) t)
def cs_ac (N : sp_N) (G : sp_Z) : Nat → sp_N → sp_O → Nat
  | 0, _, _ => 0
  | f + 1, M, F => match cs_d M G (N 6 0) with
    | none => 0
    | some t => cs_ac N G f (cs_lM M N t) (cs_aF F (N 7 t) t) + 1
def cs_oka (N : sp_N) (G : sp_Z) : Nat → sp_N → sp_O → Prop
  | 0, M, _ => cl_B M
  | f + 1, M, F => cl_B M ∧ ∀ t, cs_d M G (N 6 0) = some t → cs_oka N G f (cs_lM M N t) (cs_aF F (N 7 t) t)
theorem cs_oka_B {N : sp_N} {G : sp_Z} : ∀ {f : Nat} {M : sp_N} {F : sp_O}, cs_oka N G f M F → cl_B M
  | 0, _, _, h => h
  | _ + 1, _, _, h => h.1
theorem cs_h_lt {M : sp_N} {X : sp_B} {F : sp_O} {N : sp_N} {O : sp_O} {B : sp_B} (h : cl_S M X F N O B) {t : Nat} : ∀ n, n ≤ N 1 0 → cs_h M X F N n = some t → t < N 6 0
  | 0, _, hh => by cases hh
  | n + 1, hn, hh => by
    have ih := cs_h_lt h (t := t) n (by omega)
    unfold cs_h cs_g at hh
    cases hf : cs_f F n with
    | none => rw [hf] at hh; exact ih hh
    | some u =>
      rw [hf] at hh
      simp only [] at hh
      split at hh
      · cases hh
        unfold cs_f at hf
        cases hk : F (8 + n) 4 with
        | none => rw [hk] at hf; cases hf
        | some k =>
          obtain ⟨z, hz, rfl⟩ := cl_fs h (by omega) hk
          rw [hk] at hf
          simp at hf
          omega
      · exact ih hh
theorem cs_wM_g (M : sp_N) (F : sp_O) (N : sp_N) (t : Nat) {g f : Nat} (hg : g < 4) : cs_wM M F N t (4 + g) f = M (4 + g) f := by
  unfold cs_wM cs_dn
  rw [if_neg (by omega)]
  cases F (20 + t) 5 with
  | none => exact (sp_u_app M 0 6 (M 0 6 - 1) (4 + g) f).trans (if_neg (by omega))
  | some k => rfl
theorem cl_B_w {M : sp_N} (h : cl_B M) (F : sp_O) (N : sp_N) (t : Nat) : cl_B (cs_wM M F N t) := by
  have key : ∀ K : sp_N, cl_B K → cl_B (cs_dn N (N 7 t) K) := fun K hK k f => by
    have h1 := hK k f
    have h2 := hK k 7
    unfold cs_dn
    split
    · split <;> omega
    · exact h1
  unfold cs_wM
  apply key
  cases F (20 + t) 5 with
  | none => exact cl_B_u h (by have := h 0 6; omega)
  | some k => exact h
theorem tw_ml_min : Cond.methodLink rn_D 162 Lib.MathLoose.min_long.x ∈ bg_tbl := bg_t (i := 313) (by decide +kernel) rfl
theorem tw_st_min : Cond.static Lib.MathLoose.min_long.x ∈ bg_tbl := bg_t (i := 314) (by decide +kernel) rfl
theorem tw_co_min : Cond.code Lib.MathLoose.min_long.x Lib.MathLoose.min_long.code 4 (some .long) ∈ bg_tbl := bg_t (i := 315) (by decide +kernel) rfl
