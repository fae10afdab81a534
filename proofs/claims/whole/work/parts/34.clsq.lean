/-! Part 34: the class's methods that make a block: what they do to the maps. -/
abbrev cw_T5 : Type := List Nat × sp_N × sp_B × sp_O × sp_Z
def cw_Ut (D : va_G) (ad : Nat → Nat) (ca : Nat → ClassId) (u : cw_T5) (U : State) : Prop := cw_U D u.1 ad ca u.2.1 u.2.2.1 u.2.2.2.1 u.2.2.2.2 U
def cs_mM (K : sp_N) (o : Option Nat) : sp_N := match o with
  | none => K
  | some k => sp_u K (4 + k) 1 (K (4 + k) 1 + 1)
def cs_mF (E : sp_O) (t : Nat) (o : Option Nat) : sp_O := match o with
  | none => E
  | some k => sp_u E (20 + t) 6 (some (4 + k))
def cu_submit (ks : List Nat) (M : sp_N) (X : sp_B) (F : sp_O) (G : sp_Z) (N : sp_N) (bar : Bool) (q : Option Nat) (g : Option (Option Nat)) : cw_T5 := match q, g with
  | some a, some o => if N 6 0 = 160 then (ks, M, X, F, G) else (ks ++ [20 + N 6 0], cs_lM (cs_mM (cs_AM M (N 6 0)) o) (sp_AN N a) (N 6 0), cs_nX X (N 6 0) (bar && decide (3 ≤ a)), cs_aF (cs_mF (cs_AF F (N 6 0) a) (N 6 0) o) (sp_AN N a 7 (N 6 0)) (N 6 0), cs_nG G (N 6 0))
  | none, _ => (ks, M, X, F, G)
  | some _, none => (ks, M, X, F, G)
def cu_after (ks : List Nat) (M : sp_N) (X : sp_B) (F : sp_O) (G : sp_Z) (N : sp_N) (d : Int64) (q : Option Nat) : cw_T5 := match q with
  | none => (ks, M, X, F, G)
  | some a => if N 6 0 = 160 then (ks, M, X, F, G) else if d ≤ 0 then (ks ++ [20 + N 6 0], cs_lM (cs_AM M (N 6 0)) (sp_AN N a) (N 6 0), cs_nX X (N 6 0) (false && decide (3 ≤ a)), cs_aF (cs_AF F (N 6 0) a) (sp_AN N a 7 (N 6 0)) (N 6 0), cs_nG G (N 6 0))
    else (ks ++ [20 + N 6 0], sp_u (cs_AM M (N 6 0)) (20 + N 6 0) 3 1, cs_nX X (N 6 0) (false && decide (3 ≤ a)), cs_AF F (N 6 0) a, sp_u (cs_nG G (N 6 0)) (20 + N 6 0) 8 (cs_dl (cs_nG G (N 6 0)) d))
def ck_call (M : sp_N) (N : sp_N) (O : sp_O) (B : sp_B) (c q : Option Nat) (bar : Bool) : Option (Nat × Nat) := match c with
  | none => none
  | some a => if M (20 + a) 3 = 3 then match q with
      | none => none
      | some b => if cs_dk M N O B a b bar = true then none else if N 6 0 = 160 then none else some (a, b)
    else none
def cm_call (M : sp_N) (N : sp_N) (O : sp_O) (B : sp_B) (c q : Option Nat) (bar : Bool) : Int32 := match c with
  | none => -3
  | some a => if M (20 + a) 3 = 3 then match q with
      | none => -1
      | some b => if cs_dk M N O B a b bar = true then -7 else if N 6 0 = 160 then -4 else nI (N 6 0)
    else -3
def cu_call (ks : List Nat) (M : sp_N) (X : sp_B) (F : sp_O) (G : sp_Z) (N : sp_N) (bar : Bool) (o : Option (Nat × Nat)) : cw_T5 := match o with
  | none => (ks, M, X, F, G)
  | some (a, b) => (ks ++ [20 + N 6 0], cs_lM (sp_u (cs_AM M (N 6 0)) (20 + a) 3 4) (sp_AN N b) (N 6 0), cs_nX X (N 6 0) (bar && decide (3 ≤ b)), cs_aF (sp_u (cs_AF F (N 6 0) b) (20 + N 6 0) 5 (some (20 + a))) (sp_AN N b 7 (N 6 0)) (N 6 0), cs_nG G (N 6 0))
def cu_when (ks : List Nat) (M : sp_N) (X : sp_B) (F : sp_O) (G : sp_Z) (N : sp_N) (g q : Option Nat) : cw_T5 := match g, q with
  | some k, some a => if N 6 0 = 160 then (ks, M, X, F, G) else if cs_AM M (N 6 0) (4 + k) 0 = 0 ∧ cs_AM M (N 6 0) (4 + k) 1 = 0 then (ks ++ [20 + N 6 0], cs_lM (cs_AM M (N 6 0)) (sp_AN N a) (N 6 0), cs_nX X (N 6 0) (false && decide (3 ≤ a)), cs_aF (cs_AF F (N 6 0) a) (sp_AN N a 7 (N 6 0)) (N 6 0), cs_nG G (N 6 0))
    else (ks ++ [20 + N 6 0], sp_u (cs_AM M (N 6 0)) (20 + N 6 0) 3 0, cs_nX X (N 6 0) (false && decide (3 ≤ a)), sp_u (cs_AF F (N 6 0) a) (20 + N 6 0) 7 (some (4 + k)), cs_nG G (N 6 0))
  | none, _ => (ks, M, X, F, G)
  | some _, none => (ks, M, X, F, G)
theorem bd_gr_a {g : Int32} {k : Nat} (h : bd_at g 4 = some k) : bd_gr g = some (some k) := by
  obtain ⟨hk, rfl⟩ := bd_at_some (by decide) h
  have h1 : ¬ nI k < -1 := fun z => by
    have h2 := Int32.lt_iff_toInt_lt.mp z
    rw [nI_toInt (by omega), show (-1 : Int32).toInt = -1 by decide] at h2
    omega
  have h2 : nI k ≤ nI 3 := nI_le (by omega) (by decide)
  have h3 : ¬ nI k = -1 := fun z => by
    have h4 : (nI k).toInt = (-1 : Int32).toInt := by rw [z]
    rw [nI_toInt (by omega), show (-1 : Int32).toInt = -1 by decide] at h4
    omega
  rw [bd_gr, if_neg h1, if_pos h2, if_neg h3, nI_clamp (by omega)]
theorem bd_gr_b {g : Int32} (h2 : g = -1) : bd_gr g = some none := by subst h2; decide
theorem bd_gr_c {g : Int32} (h : bd_at g 4 = none) (h2 : ¬ g = -1) : bd_gr g = none := by
  by_cases h1 : g < -1
  · exact bd_gr_1 h1
  · by_cases h3 : g ≤ nI 3
    · obtain ⟨o, ho, rfl, -⟩ := bd_gr_3 h1 h3
      cases o with
      | none => exact absurd rfl h2
      | some k =>
        rw [bd_o_s, bd_at_in (ho k rfl) (by decide)] at h
        cases h
    · exact bd_gr_2 h3
section CSQ
variable {M : sp_N} {X : sp_B} {F : sp_O} {N : sp_N} {O : sp_O} {B : sp_B}
theorem cl_B_A (h : cl_B M) {t : Nat} (ht : t < 160) : cl_B (cs_AM M t) := by
  apply cl_B_u _ (by omega)
  intro k f
  unfold cs_nM va_up
  split
  · show (if f = 0 then t else 0) < 2 ^ 31
    split <;> omega
  · exact h k f
/-- the block joins a group, has a caller, is held for a group -/
theorem cl_S_m (h : cl_S M X F N O B) {t g : Nat} (ht : t < N 6 0) (hg : g < 4) : cl_S M X (sp_u F (20 + t) 6 (some (4 + g))) N (sp_u O 10 t (some g)) B := by
  obtain ⟨⟨a1, a2, a3, a4, a5, a6, a7⟩, b, c, d1, d2, d3, d4, d5, d6, d7⟩ := h
  have h12 := a1.2.1
  have key : ∀ k' f', ¬ (k' = 20 + t ∧ f' = 6) → sp_u F (20 + t) 6 (some (4 + g)) k' f' = F k' f' := fun k' f' hn => by rw [sp_u_app, if_neg hn]
  refine ⟨⟨a1, a2, a3, a4, ?_, ?_, ?_⟩, fun j hj => ?_, fun u hu => ?_, fun u z hu hz => ?_, fun u z hu hz => ?_, fun g' hg' => ?_, fun j z hj hz => ?_, fun j z hj hz => ?_, fun u z hu hz => ?_, fun u z hu hz => ?_⟩
  · rw [key _ _ (by omega)]; exact a5
  · rw [key _ _ (by omega)]; exact a6
  · rw [key _ _ (by omega)]; exact a7
  · rw [key _ _ (by omega), key _ _ (by omega)]; exact b j hj
  · obtain ⟨c1, c2, c3, c4, c5, c6, c7⟩ := c u hu
    refine ⟨by rw [key _ _ (by omega)]; exact c1, c2, c3, by rw [key _ _ (by omega)]; exact c4, c5, by rw [key _ _ (by omega)]; exact c6, ?_⟩
    by_cases he : u = t
    · subst he; rw [sp_u_self, sp_u_self]; rfl
    · rw [key _ _ (by omega), sp_u_app, if_neg (by omega)]; exact c7
  · exact d1 u z hu hz
  · rw [sp_u_app] at hz
    split at hz
    · cases hz; exact hg
    · exact d2 u z hu hz
  · rw [key _ _ (by omega)]; exact d3 g' hg'
  · rw [key _ _ (by omega)] at hz; exact d4 j z hj hz
  · rw [key _ _ (by omega)] at hz; exact d5 j z hj hz
  · rw [key _ _ (by omega)] at hz; exact d6 u z hu hz
  · rw [key _ _ (by omega)] at hz; exact d7 u z hu hz
theorem cl_S_k (h : cl_S M X F N O B) {t k : Nat} (ht : t < N 6 0) (hk : k < t) : cl_S M X (sp_u F (20 + t) 5 (some (20 + k))) N (sp_u O 9 t (some k)) B := by
  obtain ⟨⟨a1, a2, a3, a4, a5, a6, a7⟩, b, c, d1, d2, d3, d4, d5, d6, d7⟩ := h
  have h12 := a1.2.1
  have key : ∀ k' f', ¬ (k' = 20 + t ∧ f' = 5) → sp_u F (20 + t) 5 (some (20 + k)) k' f' = F k' f' := fun k' f' hn => by rw [sp_u_app, if_neg hn]
  refine ⟨⟨a1, a2, a3, a4, ?_, ?_, ?_⟩, fun j hj => ?_, fun u hu => ?_, fun u z hu hz => ?_, fun u z hu hz => ?_, fun g' hg' => ?_, fun j z hj hz => ?_, fun j z hj hz => ?_, fun u z hu hz => ?_, fun u z hu hz => ?_⟩
  · rw [key _ _ (by omega)]; exact a5
  · rw [key _ _ (by omega)]; exact a6
  · rw [key _ _ (by omega)]; exact a7
  · rw [key _ _ (by omega), key _ _ (by omega)]; exact b j hj
  · obtain ⟨c1, c2, c3, c4, c5, c6, c7⟩ := c u hu
    refine ⟨by rw [key _ _ (by omega)]; exact c1, c2, c3, by rw [key _ _ (by omega)]; exact c4, c5, ?_, by rw [key _ _ (by omega)]; exact c7⟩
    by_cases he : u = t
    · subst he; rw [sp_u_self, sp_u_self]; rfl
    · rw [key _ _ (by omega), sp_u_app, if_neg (by omega)]; exact c6
  · rw [sp_u_app] at hz
    split at hz
    · cases hz; omega
    · exact d1 u z hu hz
  · exact d2 u z hu hz
  · rw [key _ _ (by omega)]; exact d3 g' hg'
  · rw [key _ _ (by omega)] at hz; exact d4 j z hj hz
  · rw [key _ _ (by omega)] at hz; exact d5 j z hj hz
  · rw [key _ _ (by omega)] at hz; exact d6 u z hu hz
  · rw [key _ _ (by omega)] at hz; exact d7 u z hu hz
end CSQ
section CWQ
variable {p : Program} {l : Launch} {e : Env} {R : Room} {s : State} {m : MethodId} {args : Array Value} {below : List Frame} {meth : Method} {c : Code} {H H0 : Heap} {locs : List Loc} {cells slots mc ms : Nat} {Q : State → Prop}
variable {cc bytes : ByteArray} {pc nL maxL index n : Nat} {ls : Array Slot} {rest st0 : List Value} {D : va_G} {ks ks2 : List Nat} {ad : Nat → Nat} {ca : Nat → ClassId} {M M' : sp_N} {X X' : sp_B} {F F' : sp_O} {G G' : sp_Z} {Ts ws : List Cond} {y : MethodName} {ret : Option FieldType} {rm : Room} {As : List Value} {A A0 : Nat → Prop} {own C : String} {T : u_T} {NF ci k nk : Nat} {fs : List Value}
theorem cw_callwvA (S : CallFix p m c cc nL s args Ts own) (hM : Met l y ws rm (va_Pc (.ref (ad k) :: As) (cw_U D ks ad ca M X F G)) (va_Qv (fun (_ : Unit) => True) (fun _ t => cw_U D ks ad ca M' X' F' G' t) (cw_A ks ad)) 0 0 (cw_A ks ad)) (cw : CallW R s args own C index y bytes maxL ret ws rm 0 0 n) (hA : ∀ q, cw_A ks ad q → A0 q) (hK : va_K D vw_cl (cw_T ca) s) (hP : va_P D vw_cl (cw_W ks ad ca M X F G) H) (hS : va_S A0 H0 H locs) (hk : k ∈ ks) (hE : cw_C ad ca k (M k) (X k) (F k) (G k) = .inr (ci, fs)) (hc : vw_cl[ci]? = some (C, T, NF)) (hn : As.length = n) (hsize : ls.size = nL) (hstack : st0 = As.reverse ++ .ref (ad k) :: rest) (hW : (rest.map fun v => v.category).sum ≤ 8) (hdg : decode cc pc = .ok (.invokevirtual index, 3)) (hf : cells ≤ R.cells ∧ slots ≤ R.slots)
    (kk : ∀ (H1 : Heap) (locs1 : List Loc), va_P D vw_cl (cw_W ks ad ca M' X' F' G') H1 → va_S A0 H0 H1 locs1 → W p l e R s m args below meth c H1 locs1 cells slots Q (F0 m (pc + 3) ls rest)) : W p l e R s m args below meth c H locs cells slots Q (F0 m pc ls st0) := by
  subst hstack
  exact va_callv (va_runV S hM cw ⟨cw_blind D ks ad ca M X F G _, cw_recv hK hP hk hE hc, fun U hU hW => ⟨rfl, by rw [hU]; exact hP, va_K.moved hW.alike hK⟩⟩ rfl hn hsize rfl (lv_room hW) hdg hf) hS (fun q _ h => hA q h) (fun q h => hA q h) (fun u t H1 locs1 ht hvm hr hB hz hk hS1 => kk H1 locs1 (by rw [← ht]; exact hB.1) hS1)
theorem cw_callacc (S : CallFix p m c cc nL s args Ts own) (hM : Met l y ws rm (va_Pc (.ref (ad k) :: As) (fun U => U.heap.size = ad nk ∧ cw_U D ks ad ca M X F G U)) (va_Qr (fun (_ : Unit) => True) (fun _ aa uu => aa = ad nk ∧ cw_U D ks2 ad ca M' X' F' G' uu) A) mc ms A) (cw : CallW R s args own C index y bytes maxL ret ws rm mc ms n) (hsz : H.size = ad nk) (hK : va_K D vw_cl (cw_T ca) s) (hP : va_P D vw_cl (cw_W ks ad ca M X F G) H) (hS : va_S A H0 H locs) (hk : k ∈ ks) (hE : cw_C ad ca k (M k) (X k) (F k) (G k) = .inr (ci, fs)) (hc : vw_cl[ci]? = some (C, T, NF)) (hn : As.length = n) (hsize : ls.size = nL) (hstack : st0 = As.reverse ++ .ref (ad k) :: rest) (hW : (rest.map fun v => v.category).sum ≤ 8) (hdg : decode cc pc = .ok (.invokevirtual index, 3)) (hf : cells + mc ≤ R.cells ∧ slots + ms ≤ R.slots)
    (kk : ∀ (H1 : Heap) (locs1 : List Loc), va_P D vw_cl (cw_W ks2 ad ca M' X' F' G') H1 → va_S A H0 H1 locs1 → W p l e R s m args below meth c H1 locs1 (cells + mc) (slots + ms) Q (F0 m (pc + 3) ls (.ref (ad nk) :: rest))) : W p l e R s m args below meth c H locs cells slots Q (F0 m pc ls st0) := by
  subst hstack
  refine va_callr (va_runV S hM cw ⟨fun a U g mk q => ⟨q.1, q.2.1, q.2.2.1, va_K.moved (u := U) (U := U.calling g mk a) (Vm.Alike.refl U.vm) q.2.2.2⟩, cw_recv hK hP hk hE hc, fun U hU hW => ⟨rfl, by rw [hU]; exact hsz, by rw [hU]; exact hP, va_K.moved hW.alike hK⟩⟩ rfl hn hsize rfl (lv_room hW) hdg hf) hS (fun q _ h => h) (fun q h => h) ?_
  intro u aa t H1 locs1 ht hvm hr hB hz hk hS1
  obtain ⟨rfl, hB2⟩ := hB
  exact kk H1 locs1 (by rw [← ht]; exact hB2.1) hS1
theorem cw_calll {v : Int64} (S : CallFix p m c cc nL s args Ts own) (hM : Met l y ws rm (va_Pc (.ref (ad k) :: As) (cw_U D ks ad ca M X F G)) (vp_Sl (fun r => r = v)) 0 0 (fun _ => False)) (cw : CallW R s args own C index y bytes maxL ret ws rm 0 0 n) (hK : va_K D vw_cl (cw_T ca) s) (hP : va_P D vw_cl (cw_W ks ad ca M X F G) H) (hk : k ∈ ks) (hE : cw_C ad ca k (M k) (X k) (F k) (G k) = .inr (ci, fs)) (hc : vw_cl[ci]? = some (C, T, NF)) (hn : As.length = n) (hsize : ls.size = nL) (hstack : st0 = As.reverse ++ .ref (ad k) :: rest) (hW : (rest.map fun v => v.category).sum ≤ 8) (hdg : decode cc pc = .ok (.invokevirtual index, 3)) (hf : cells ≤ R.cells ∧ slots ≤ R.slots)
    (kk : W p l e R s m args below meth c H locs cells slots Q (F0 m (pc + 3) ls (.long v :: rest))) : W p l e R s m args below meth c H locs cells slots Q (F0 m pc ls st0) := by
  subst hstack
  exact vp_callSl (W.runV S hM cw ⟨cw_blind D ks ad ca M X F G _, cw_recv hK hP hk hE hc, fun U hU hW => ⟨rfl, by rw [hU]; exact hP, va_K.moved hW.alike hK⟩⟩ rfl hn hsize rfl (lv_room hW) hdg hf) (fun r hr => by subst hr; exact kk)
end CWQ
