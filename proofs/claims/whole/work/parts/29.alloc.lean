/-! Part 29: a new object in the class's world. -/
section CN
variable {p : Program} {l : Launch} {e : Env} {R : Room} {s : State} {m : MethodId} {args : Array Value} {below : List Frame} {meth : Method} {c : Code} {H H0 : Heap} {locs : List Loc} {cells slots : Nat} {Q : State → Prop}
variable {cc bytes : ByteArray} {pc nL maxL index n : Nat} {ls : Array Slot} {rest st0 : List Value} {D : va_G} {ks : List Nat} {ad : Nat → Nat} {ca : Nat → ClassId} {M : sp_N} {X : sp_B} {F : sp_O} {G : sp_Z} {Ts ws : List Cond} {y : MethodName} {ret : Option FieldType} {rm : Room} {As : List Value} {tys : List (ClassId × FieldType)} {A : Nat → Prop} {own C : String} {T : u_T} {NF ci k : Nat} {fs fs' : List Value}
theorem cw_new (hx : p.tables.exec = Jvm.exec) (hb : c.code = cc) (hts : ∀ w ∈ Ts, w.before args s = true) (hin : ∀ w ∈ u_ws C T NF, w ∈ Ts) (ty : Nat → FieldType) (hty : ∀ k, k < NF → parseFieldDescriptor (T k).2.2.1 = some (ty k)) (hown : s.vm.findClass own = some m.cls) (hcl : (Cond.classLink own index C).before args s = true) (hinst : (Cond.instantiable C NF).before args s = true) (hini : (Cond.initialized C).before args s = true) (hK : va_K D vw_cl tys s) (hc : vw_cl[ci]? = some (C, T, NF)) (hfs : ∀ j, j < NF → defaultValue (ty j) = vp_V fs j) (hS : va_S A H0 H locs) (hcells : cells + 1 ≤ R.cells) (hslots : slots + NF ≤ R.slots) (hdg : decode cc pc = .ok (.new index, 3))
    (kk : ∀ H1 : Heap, va_P D vw_cl [(H.size, .inr (ci, fs))] H1 → (∀ q, q < H.size → H1[q]? = H[q]?) → H1.size = H.size + 1 → va_S A H0 H1 locs → W p l e R s m args below meth c H1 locs (cells + 1) (slots + NF) Q (F0 m (pc + 3) ls (.ref H.size :: rest))) : W p l e R s m args below meth c H locs cells slots Q (F0 m pc ls rest) := by
  have hKn := hK.1 ci _ hc
  refine W.newcK hx hb hown hcl hinst hini rfl hdg hcells hslots hKn.2.1 rfl fun H1 kC hkC e1 z1 o1 => ?_
  refine kk H1 (fun i x hi => ?_) o1 z1 ⟨Nat.le_trans hS.1 (by omega), fun x h1 h2 => (o1 x (Nat.lt_of_lt_of_le h1 hS.1)).trans (hS.2.1 x h1 h2), hS.2.2⟩
  have hz : i < 1 := (List.getElem?_eq_some_iff.mp hi).1
  rw [show i = 0 by omega] at hi
  cases hi
  exact ⟨_, hc, (u_born ty hts hin hKn hkC e1 hty).to hfs⟩
/-- a constructor is called on a cell of its own -/
theorem cw_callI (S : CallFix p m c cc nL s args Ts own) {a : Nat} (hM : Met l y ws rm (va_Pc (.ref a :: As) (fun U => va_P D vw_cl [(a, .inr (ci, fs))] U.heap ∧ va_K D vw_cl [] U)) (va_Qv (fun (_ : Unit) => True) (fun _ uu => va_P D vw_cl [(a, .inr (ci, fs'))] uu.heap) (fun q => q = a)) 0 0 (fun q => q = a)) (cw : CallB R s args own index y bytes maxL none ws rm 0 0 n ∧ y.name = "<init>" ∧ (Cond.instanceMethod y).before args s = true) (hK : va_K D vw_cl tys s) (hP : va_P D vw_cl [(a, .inr (ci, fs))] H) (hS : va_S A H0 H locs) (hAa : A a) (hn : As.length = n) (hsize : ls.size = nL) (hstack : st0 = As.reverse ++ .ref a :: rest) (hW : (rest.map fun v => v.category).sum ≤ 8) (hdg : decode cc pc = .ok (.invokespecial index, 3)) (hf : cells ≤ R.cells ∧ slots ≤ R.slots)
    (kk : ∀ (H1 : Heap) (locs1 : List Loc), va_P D vw_cl [(a, .inr (ci, fs'))] H1 → (∀ q, q < H.size → q ≠ a → H1[q]? = H[q]?) → va_S A H0 H1 locs1 → W p l e R s m args below meth c H1 locs1 cells slots Q (F0 m (pc + 3) ls rest)) : W p l e R s m args below meth c H locs cells slots Q (F0 m pc ls st0) := by
  subst hstack
  exact va_callv (va_runI S hM cw ⟨fun a U g mk q => ⟨q.1, q.2.1, va_K.moved (u := U) (U := U.calling g mk a) (Vm.Alike.refl U.vm) q.2.2⟩, fun U hU hW => ⟨rfl, by rw [hU]; exact hP, ⟨(va_K.moved hW.alike hK).1, fun k q hk => by simp at hk⟩⟩⟩ rfl hn hsize rfl (lv_room hW) hdg hf) hS (fun q _ h => by rw [h]; exact hAa) (fun q h => by rw [h]; exact hAa) (fun u t H1 locs1 ht hvm hr hB hz hk hS1 => kk H1 locs1 (by rw [← ht]; exact hB) (fun q h1 h2 => hk q h1 h2) hS1)
end CN
theorem cw_DA {A : Nat → Prop} {ks : List Nat} {ad : Nat → Nat} (hJ : cw_J ks ad) (hA : ∀ k, k ∈ ks → A (ad k)) (ca : Nat → ClassId) (M : sp_N) (X : sp_B) (F : sp_O) (G : sp_Z) : va_D A (cw_W ks ad ca M X F G) := by
  refine ⟨(cw_D hJ ca M X F G).1, fun k q hk => ?_⟩
  obtain ⟨a, a1, rfl⟩ := cw_key hk
  exact hA a (List.mem_of_getElem? a1)
/-- the world with the new object's cell -/
theorem cw_join {D : va_G} {ks : List Nat} {ad : Nat → Nat} {ca : Nat → ClassId} {M : sp_N} {X : sp_B} {F : sp_O} {G : sp_Z} {H : Heap} {k : Nat} {mm : Nat → Nat} {xx : Nat → Bool} {ff : Nat → Option Nat} {gg : Nat → Int64} (hk : k ∉ ks) (hP : va_P D vw_cl (cw_W ks ad ca M X F G) H) (hN : va_P D vw_cl [(ad k, cw_C ad ca k mm xx ff gg)] H) : va_P D vw_cl (cw_W (ks ++ [k]) ad ca (va_up M k mm) (va_up X k xx) (va_up F k ff) (va_up G k gg)) H := by
  have e : cw_W (ks ++ [k]) ad ca (va_up M k mm) (va_up X k xx) (va_up F k ff) (va_up G k gg) = cw_W ks ad ca M X F G ++ [(ad k, cw_C ad ca k mm xx ff gg)] := by
    unfold cw_W
    rw [List.map_append]
    congr 1
    · apply List.map_congr_left
      intro a ha
      have hne : a ≠ k := fun q => hk (q ▸ ha)
      rw [va_up_ne _ _ hne, va_up_ne _ _ hne, va_up_ne _ _ hne, va_up_ne _ _ hne]
    · simp [va_up_self]
  rw [e]
  exact hP.app hN
/-- the maps with a new block: ticket t, home j, barrier bar -/
def cs_nM (M : sp_N) (t : Nat) : sp_N := va_up M (20 + t) (fun f => if f = 0 then t else 0)
def cs_nX (X : sp_B) (t : Nat) (bar : Bool) : sp_B := va_up X (20 + t) (fun f => if f = 2 then bar else false)
def cs_nF (F : sp_O) (t j : Nat) : sp_O := va_up F (20 + t) (fun f => if f = 1 then some (8 + j) else none)
def cs_nG (G : sp_Z) (t : Nat) : sp_Z := va_up G (20 + t) (fun _ => 0)
theorem cs_nM_ne (M : sp_N) (t : Nat) {k : Nat} (h : k ≠ 20 + t) : cs_nM M t k = M k := va_up_ne _ _ h
theorem cs_nX_ne (X : sp_B) (t : Nat) (b : Bool) {k : Nat} (h : k ≠ 20 + t) : cs_nX X t b k = X k := va_up_ne _ _ h
theorem cs_nF_ne (F : sp_O) (t j : Nat) {k : Nat} (h : k ≠ 20 + t) : cs_nF F t j k = F k := va_up_ne _ _ h
theorem cs_nG_ne (G : sp_Z) (t : Nat) {k : Nat} (h : k ≠ 20 + t) : cs_nG G t k = G k := va_up_ne _ _ h
theorem cs_n_cell (ad : Nat → Nat) (ca : Nat → ClassId) (t j : Nat) (bar : Bool) : cw_C ad ca (20 + t) (fun f => if f = 0 then t else 0) (fun f => if f = 2 then bar else false) (fun f => if f = 1 then some (8 + j) else none) (fun _ => 0) = .inr (0, [.int (nI t), .ref (ad (8 + j)), .int (bd_b bar), .int (nI 0), .int (bd_b false), .null, .null, .null, .long 0, .int (nI 0), .null]) := cw_CB t ad ca _ _ _ _
/-- accept as a whole -/
def cs_AM (M : sp_N) (t : Nat) : sp_N := sp_u (cs_nM M t) 0 5 (t + 1)
def cs_AF (F : sp_O) (t j : Nat) : sp_O := sp_u (cs_nF F t j) 2 t (some (20 + t))
theorem cs_AM_0 (M : sp_N) (t : Nat) {k f : Nat} (h : k ≠ 20 + t) (h2 : ¬ (k = 0 ∧ f = 5)) : cs_AM M t k f = M k f := by rw [cs_AM, sp_u_app, if_neg h2, cs_nM_ne M t h]
theorem cs_AF_0 (F : sp_O) (t j : Nat) {k f : Nat} (h : k ≠ 20 + t) (h2 : ¬ (k = 2 ∧ f = t)) : cs_AF F t j k f = F k f := by rw [cs_AF, sp_u_app, if_neg h2, cs_nF_ne F t j h]
theorem cs_AM_b (M : sp_N) (t f : Nat) : cs_AM M t (20 + t) f = if f = 0 then t else 0 := by rw [cs_AM, sp_u_app, if_neg (by omega), cs_nM, va_up_self]
theorem cs_AF_b (F : sp_O) (t j f : Nat) : cs_AF F t j (20 + t) f = if f = 1 then some (8 + j) else none := by rw [cs_AF, sp_u_app, if_neg (by omega), cs_nF, va_up_self]
theorem cs_nX_b (X : sp_B) (t : Nat) (b : Bool) (f : Nat) : cs_nX X t b (20 + t) f = if f = 2 then b else false := by rw [cs_nX, va_up_self]
section CAN
theorem sp_AN_1 (N : sp_N) (q : Nat) : sp_AN N q 1 = N 1 := rfl
theorem sp_AN_2 (N : sp_N) (q : Nat) : sp_AN N q 2 = N 2 := rfl
theorem sp_AN_6 (N : sp_N) (q : Nat) : sp_AN N q 6 0 = N 6 0 + 1 := rfl
theorem sp_AN_7 (N : sp_N) (q t : Nat) : sp_AN N q 7 t = if t = N 6 0 then q else N 7 t := by
  show sp_u (sp_u N 6 0 (N 6 0 + 1)) 7 (N 6 0) q 7 t = _
  rw [sp_u_app]
  simp only [true_and]
  rfl
theorem sp_AN_8 (N : sp_N) (q t : Nat) : sp_AN N q 8 t = if t = N 6 0 then 1 else N 8 t := by
  show sp_u (sp_u (sp_u N 6 0 (N 6 0 + 1)) 7 (N 6 0) q) 8 (N 6 0) 1 8 t = _
  rw [sp_u_app]
  simp only [true_and]
  rfl
theorem sp_AO_9 (N : sp_N) (O : sp_O) (t : Nat) : sp_AO N O 9 t = if t = N 6 0 then none else O 9 t := by
  show sp_u O 9 (N 6 0) none 9 t = _
  rw [sp_u_app]
  simp only [true_and]
theorem sp_AO_10 (N : sp_N) (O : sp_O) (t : Nat) : sp_AO N O 10 t = if t = N 6 0 then none else O 10 t := by
  show sp_u (sp_u O 9 (N 6 0) none) 10 (N 6 0) none 10 t = _
  rw [sp_u_app]
  simp only [true_and]
  rfl
theorem sp_AB_14 (N : sp_N) (B : sp_B) (q t : Nat) (bar : Bool) : sp_AB N B q bar 14 t = if t = N 6 0 then bar && decide (3 ≤ q) else B 14 t := by
  show sp_u B 14 (N 6 0) (bar && decide (3 ≤ q)) 14 t = _
  rw [sp_u_app]
  simp only [true_and]
/-- the standing part holds of the maps with the new block -/
theorem cl_S_A {M : sp_N} {X : sp_B} {F : sp_O} {N : sp_N} {O : sp_O} {B : sp_B} (h : cl_S M X F N O B) (h6 : N 6 0 < 160) {j : Nat} (hj : j < N 1 0) (bar : Bool) : cl_S (cs_AM M (N 6 0)) (cs_nX X (N 6 0) (bar && decide (3 ≤ j))) (cs_AF F (N 6 0) j) (sp_AN N j) (sp_AO N O) (sp_AB N B j bar) := by
  have h12 := cl_12 h
  have h3 := cl_3 h
  obtain ⟨rk, hrk⟩ := (cl_tr h).2.2
  refine ⟨⟨⟨(show 3 ≤ N 1 0 from h3), (show N 1 0 ≤ 12 from h12), rk, fun i hi3 hi => hrk i hi3 hi⟩, by rw [sp_AN_6]; omega, ?_, ?_, ?_, ?_, ?_⟩, fun i hi => ?_, fun t ht => ?_, fun t c ht hc => ?_, fun t c ht hc => ?_, fun g hg => ?_, fun i z hi hz => ?_, fun i z hi hz => ?_, fun t z ht hz => ?_, fun t z ht hz => ?_⟩
  · rw [cs_AM_0 _ _ (by omega) (by omega)]; exact (cl_M4 h : M 0 4 = N 1 0)
  · rw [sp_AN_6, cs_AM, sp_u_app, if_pos ⟨rfl, rfl⟩]
  · rw [cs_AF_0 _ _ _ (by omega) (by omega)]; exact cl_F1 h
  · rw [cs_AF_0 _ _ _ (by omega) (by omega)]; exact cl_F2 h
  · rw [cs_AF_0 _ _ _ (by omega) (by omega)]; exact cl_F3 h
  · have hi : i < N 1 0 := hi
    rw [cs_AF_0 _ _ _ (by omega) (by omega), cs_AM_0 _ _ (by omega) (by omega), cs_AF_0 _ _ _ (by omega) (by omega), sp_AN_2]
    exact h.2.1 i hi
  · rw [sp_AN_6] at ht
    by_cases he : t = N 6 0
    · subst he
      refine ⟨by rw [cs_AF, sp_u_app, if_pos ⟨rfl, rfl⟩], by rw [cs_AM_b]; rfl, ?_, ?_, ?_, ?_, ?_⟩
      · rw [sp_AN_7, if_pos rfl]; exact hj
      · rw [sp_AN_7, if_pos rfl, cs_AF_b]; rfl
      · rw [sp_AB_14, if_pos rfl, cs_nX_b]; rfl
      · rw [sp_AO_9, if_pos rfl, cs_AF_b]; rfl
      · rw [sp_AO_10, if_pos rfl, cs_AF_b]; rfl
    · rw [cs_AM_0 _ _ (by omega) (by omega), cs_AF_0 _ _ _ (by omega) (by omega), cs_AF_0 _ _ _ (by omega) (by omega), cs_AF_0 _ _ _ (by omega) (by omega), cs_AF_0 _ _ _ (by omega) (by omega), cs_nX_ne _ _ _ (by omega), sp_AN_7, if_neg he, sp_AB_14, if_neg he, sp_AO_9, if_neg he, sp_AO_10, if_neg he, sp_AN_1]
      exact h.2.2.1 t (by omega)
  · rw [sp_AN_6] at ht
    rw [sp_AO_9] at hc
    split at hc
    · cases hc
    · exact h.2.2.2.1 t c (by omega) hc
  · rw [sp_AN_6] at ht
    rw [sp_AO_10] at hc
    split at hc
    · cases hc
    · exact h.2.2.2.2.1 t c (by omega) hc
  · rw [cs_AF_0 _ _ _ (by omega) (by omega)]; exact cl_g h hg
  · have hi : i < N 1 0 := hi
    rw [cs_AF_0 _ _ _ (by omega) (by omega)] at hz
    obtain ⟨t, ht, rfl⟩ := cl_fs h hi hz
    exact ⟨t, by rw [sp_AN_6]; omega, rfl⟩
  · have hi : i < N 1 0 := hi
    rw [cs_AF_0 _ _ _ (by omega) (by omega)] at hz
    obtain ⟨t, ht, rfl⟩ := cl_ls h hi hz
    exact ⟨t, by rw [sp_AN_6]; omega, rfl⟩
  · rw [sp_AN_6] at ht
    by_cases he : t = N 6 0
    · subst he
      rw [cs_AF_b] at hz
      simp at hz
    · rw [cs_AF_0 _ _ _ (by omega) (by omega)] at hz
      obtain ⟨u, hu, rfl⟩ := cl_ys h (by omega) hz
      exact ⟨u, by rw [sp_AN_6]; omega, rfl⟩
  · rw [sp_AN_6] at ht
    by_cases he : t = N 6 0
    · subst he
      rw [cs_AF_b] at hz
      simp at hz
    · rw [cs_AF_0 _ _ _ (by omega) (by omega)] at hz
      exact cl_hs h (by omega) hz
theorem cl_k_A {ks : List Nat} {N : sp_N} (h : cl_k ks N) (j : Nat) : cl_k (ks ++ [20 + N 6 0]) (sp_AN N j) := by
  refine ⟨fun k hk => List.mem_append_left _ (h.1 k hk), fun i hi => List.mem_append_left _ (h.2.1 i hi), fun t ht => ?_⟩
  rw [sp_AN_6] at ht
  by_cases he : t = N 6 0
  · subst he; simp
  · exact List.mem_append_left _ (h.2.2 t (by omega))
end CAN
