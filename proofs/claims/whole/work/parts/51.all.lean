/-! Part 51: submit, after, call, whenDone, queue as wholes; the beginning. -/
/-- no other keys -/
def cl_k2 (ks : List Nat) (N : sp_N) : Prop := ∀ k, k ∈ ks → k < 8 + N 1 0 ∨ (20 ≤ k ∧ k < 20 + N 6 0)
/-- the relation with the keys -/
def cl_R5 (u : cw_T5) (N : sp_N) (O : sp_O) (Z : sp_Z) (B : sp_B) : Prop := cl_k u.1 N ∧ cl_k2 u.1 N ∧ cl_R u.2.1 u.2.2.1 u.2.2.2.1 u.2.2.2.2 N O Z B
section MW
variable {ks : List Nat} {M : sp_N} {X : sp_B} {F F' : sp_O} {G : sp_Z} {N N' : sp_N} {O O' : sp_O} {Z Z' : sp_Z} {B : sp_B} {n : Nat}
theorem cl_k_cg (h : cl_k ks N) (h2 : cl_k2 ks N) (e1 : N' 1 0 = N 1 0) (e6 : N' 6 0 = N 6 0) : cl_k ks N' ∧ cl_k2 ks N' := by
  unfold cl_k at h ⊢
  unfold cl_k2 at h2 ⊢
  rw [e1, e6]
  exact ⟨h, h2⟩
theorem cl_k_b (h : cl_k ks N) (h2 : cl_k2 ks N) (e1 : N' 1 0 = N 1 0) (e6 : N' 6 0 = N 6 0 + 1) : cl_k (ks ++ [20 + N 6 0]) N' ∧ cl_k2 (ks ++ [20 + N 6 0]) N' := by
  unfold cl_k at h ⊢
  unfold cl_k2 at h2 ⊢
  rw [e1, e6]
  obtain ⟨p1, p2, p3⟩ := h
  refine ⟨⟨fun k hk => List.mem_append_left _ (p1 k hk), fun j hj => List.mem_append_left _ (p2 j hj), fun t ht => ?_⟩, fun k hk => ?_⟩
  · by_cases htn : t = N 6 0
    · rw [htn]; exact List.mem_append_right _ (List.mem_singleton.mpr rfl)
    · exact List.mem_append_left _ (p3 t (by omega))
  · rcases List.mem_append.mp hk with z | z
    · rcases h2 k z with q | q
      · exact Or.inl q
      · exact Or.inr ⟨q.1, by omega⟩
    · rw [List.mem_singleton] at z
      exact Or.inr ⟨by omega, by omega⟩
theorem cl_k_q (h : cl_k ks N) (h2 : cl_k2 ks N) (e1 : N' 1 0 = N 1 0 + 1) (e6 : N' 6 0 = N 6 0) : cl_k (ks ++ [8 + N 1 0]) N' ∧ cl_k2 (ks ++ [8 + N 1 0]) N' := by
  unfold cl_k at h ⊢
  unfold cl_k2 at h2 ⊢
  rw [e1, e6]
  obtain ⟨p1, p2, p3⟩ := h
  refine ⟨⟨fun k hk => List.mem_append_left _ (p1 k hk), fun j hj => ?_, fun t ht => List.mem_append_left _ (p3 t ht)⟩, fun k hk => ?_⟩
  · by_cases hjn : j = N 1 0
    · rw [hjn]; exact List.mem_append_right _ (List.mem_singleton.mpr rfl)
    · exact List.mem_append_left _ (p2 j (by omega))
  · rcases List.mem_append.mp hk with z | z
    · rcases h2 k z with q | q
      · exact Or.inl (by omega)
      · exact Or.inr q
    · rw [List.mem_singleton] at z
      exact Or.inl (by omega)
theorem sp_u_id {α : Type} (K : Nat → Nat → α) (f j : Nat) {v : α} (h : K f j = v) : sp_u K f j v = K := by
  funext f' j'
  rw [sp_u_app]
  split
  · rename_i hz
    rw [hz.1, hz.2, h]
  · rfl
theorem sp_L_ext {K K' : sp_N} (h : ∀ f, f ≠ 8 → K f = K' f) (h8 : ∀ u, u ≠ n → K 8 u = K' 8 u) : sp_L K n = sp_L K' n := by
  funext f u
  by_cases e8 : f = 8
  · rw [e8, sp_L8, sp_L8]
    by_cases hu : u = n
    · rw [if_pos hu, if_pos hu]
    · rw [if_neg hu, if_neg hu, h8 u hu]
  · by_cases e12 : f = 12
    · rw [e12, sp_L12, sp_L12, h 16 (by decide), h 12 (by decide)]
    · by_cases e16 : f = 16
      · rw [e16]
        unfold sp_L
        rw [h 16 (by decide)]
        by_cases hu : u = 0
        · rw [hu, sp_u_self, sp_u_self]
        · rw [sp_u_n _ _ (Or.inr hu), sp_u_n _ _ (Or.inr hu), sp_u_n _ _ (Or.inl (by decide)), sp_u_n _ _ (Or.inl (by decide)), sp_u_n _ _ (Or.inl (by decide)), sp_u_n _ _ (Or.inl (by decide)), h 16 (by decide)]
      · rw [sp_L_e _ _ e8 e12 e16, sp_L_e _ _ e8 e12 e16, h f e8]
theorem sp_n0_AN (N : sp_N) (a : Nat) {f : Nat} (h : f ≠ 8) : sp_n0 N a f = sp_AN N a f := by
  unfold sp_n0
  exact sp_u_f _ _ _ h
theorem sp_n0_AN8 (N : sp_N) (a : Nat) {u : Nat} (h : u ≠ N 6 0) : sp_n0 N a 8 u = sp_AN N a 8 u := by
  unfold sp_n0
  rw [sp_u8, if_neg h]
theorem sp_L_n0 (N : sp_N) (a : Nat) : sp_L (sp_n0 N a) (N 6 0) = sp_L (sp_AN N a) (N 6 0) := sp_L_ext (fun f hf => sp_n0_AN N a hf) (fun u hu => sp_n0_AN8 N a hu)
theorem sp_LA_1 (K : sp_N) (t : Nat) : sp_L K t 1 0 = K 1 0 := by rw [sp_L_e _ _ (by decide) (by decide) (by decide)]
theorem sp_LA_6 (K : sp_N) (t : Nat) : sp_L K t 6 0 = K 6 0 := by rw [sp_L_e _ _ (by decide) (by decide) (by decide)]
theorem mt_nline {a : Nat} (h : cl_R M X F G (sp_n0 N a) O Z B) : cl_R (cs_lM M (sp_AN N a) (N 6 0)) X (cs_aF F (sp_AN N a 7 (N 6 0)) (N 6 0)) G (sp_L (sp_AN N a) (N 6 0)) O Z B := by
  have h1 := mt_line h (t := N 6 0) (by rw [sp_n0_6]; omega) (by rw [sp_n0_8, if_pos rfl]; decide)
  rw [sp_L_n0, cs_lM_cg (sp_n0_AN N a (by decide)), sp_n0_AN N a (by decide)] at h1
  exact h1
theorem mt_submit (hk : cl_k ks N) (hk2 : cl_k2 ks N) (h : cl_R M X F G N O Z B) {q : Option Nat} (hq : ∀ k, q = some k → k < N 1 0) {g : Option (Option Nat)} (hg : ∀ k, g = some (some k) → k < 4) (bar : Bool) : cl_R5 (cu_submit ks M X F G N bar q g) (nm_submit N q g) (om_submit N O q g) Z (bm_submit N B q bar g) := by
  cases q with
  | none => exact ⟨hk, hk2, h⟩
  | some a =>
    cases g with
    | none => exact ⟨hk, hk2, h⟩
    | some o =>
      have h160 := cl_160 h.1
      unfold cu_submit nm_submit om_submit bm_submit
      dsimp only
      by_cases h6 : N 6 0 = 160
      · rw [if_pos h6, if_pos h6, if_pos h6, if_pos h6]; exact ⟨hk, hk2, h⟩
      · rw [if_neg h6, if_neg h6, if_neg h6, if_neg h6]
        have h1 := mt_new h (by omega) (hq a rfl) bar
        obtain ⟨k1, k2⟩ := cl_k_b (N' := sp_L (sp_AN N a) (N 6 0)) hk hk2 (sp_LA_1 _ _) (sp_LA_6 _ _)
        refine ⟨k1, k2, ?_⟩
        cases o with
        | none =>
          rw [sp_u_id (sp_AO N O) 10 (N 6 0) (sp_AO_n N O (Or.inr (Or.inl rfl)))]
          exact mt_nline h1
        | some k =>
          exact mt_nline (mt_mem h1 (by rw [sp_n0_6]; omega) (by rw [sp_n0_8, if_pos rfl]; decide) (sp_AO_n N O (Or.inr (Or.inl rfl))) (hg k rfl))
theorem mt_after (hk : cl_k ks N) (hk2 : cl_k2 ks N) (h : cl_R M X F G N O Z B) {q : Option Nat} (hq : ∀ k, q = some k → k < N 1 0) (d : Int64) : cl_R5 (cu_after ks M X F G N d q) (nm_after N q d) (om_after N O q) (zm_after N Z q d) (bm_after N B q) := by
  cases q with
  | none => exact ⟨hk, hk2, h⟩
  | some a =>
    have h160 := cl_160 h.1
    unfold cu_after nm_after om_after zm_after bm_after
    dsimp only
    by_cases h6 : N 6 0 = 160
    · rw [if_pos h6, if_pos h6, if_pos h6, if_pos h6, if_pos h6]; exact ⟨hk, hk2, h⟩
    · rw [if_neg h6, if_neg h6, if_neg h6, if_neg h6, if_neg h6]
      have h1 := mt_new h (by omega) (hq a rfl) false
      by_cases hd : d ≤ 0
      · rw [if_pos hd, if_pos hd, if_pos hd]
        obtain ⟨k1, k2⟩ := cl_k_b (N' := sp_L (sp_AN N a) (N 6 0)) hk hk2 (sp_LA_1 _ _) (sp_LA_6 _ _)
        exact ⟨k1, k2, mt_nline h1⟩
      · rw [if_neg hd, if_neg hd, if_neg hd]
        obtain ⟨k1, k2⟩ := cl_k_b (N' := sp_AN N a) hk hk2 rfl rfl
        refine ⟨k1, k2, ?_⟩
        have h2 := mt_delay h1 (n := N 6 0) (by rw [sp_n0_6]; omega) (by rw [sp_n0_8, if_pos rfl]) (zm_dl Z d)
        have e1 : sp_u (sp_n0 N a) 8 (N 6 0) 1 = sp_AN N a := by
          funext f u
          rw [sp_u_app]
          by_cases hz : f = 8 ∧ u = N 6 0
          · rw [if_pos hz, hz.1, hz.2, sp_AN_8, if_pos rfl]
          · rw [if_neg hz]
            unfold sp_n0
            rw [sp_u_app, if_neg hz]
        have e2 : cs_dl (cs_nG G (N 6 0)) d = zm_dl Z d := by
          unfold cs_dl zm_dl
          rw [cs_nG_ne G _ (by omega), h.2.1.1.2.2.2]
        rw [e1] at h2
        rw [e2]
        exact h2
theorem mt_ck (h : cl_R M X F G N O Z B) {c q : Option Nat} (hc : ∀ k, c = some k → k < N 6 0) (bar : Bool) : ck_call M N O B c q bar = ok_call N O B c q bar ∧ cm_call M N O B c q bar = am_call N O B c q bar := by
  cases c with
  | none => exact ⟨rfl, rfl⟩
  | some a =>
    have hd := (h.2.1.2.2.1 a (hc a rfl)).1
    unfold ck_call ok_call cm_call am_call
    dsimp only
    rw [hd]
    cases q with
    | none => exact ⟨rfl, rfl⟩
    | some b =>
      dsimp only
      rw [mr_dk h.2.1]
      exact ⟨rfl, rfl⟩
theorem mt_call (hk : cl_k ks N) (hk2 : cl_k2 ks N) (h : cl_R M X F G N O Z B) {c q : Option Nat} (hc : ∀ k, c = some k → k < N 6 0) (hq : ∀ k, q = some k → k < N 1 0) (bar : Bool) : cl_R5 (cu_call ks M X F G N bar (ok_call N O B c q bar)) (nm_call N (ok_call N O B c q bar)) (om_call N O (ok_call N O B c q bar)) Z (bm_call N B bar (ok_call N O B c q bar)) := by
  cases ho : ok_call N O B c q bar with
  | none => exact ⟨hk, hk2, h⟩
  | some ab =>
    obtain ⟨a, b⟩ := ab
    have h160 := cl_160 h.1
    have hh : c = some a ∧ q = some b ∧ N 8 a = 3 ∧ N 6 0 ≠ 160 := by
      unfold ok_call at ho
      cases c with
      | none => cases ho
      | some a' =>
        dsimp only at ho
        by_cases h3 : N 8 a' = 3
        · rw [if_pos h3] at ho
          cases q with
          | none => cases ho
          | some b' =>
            dsimp only at ho
            by_cases h4 : sp_dl N O B b' bar 160 (some a') = true
            · rw [if_pos h4] at ho; cases ho
            · rw [if_neg h4] at ho
              by_cases h5 : N 6 0 = 160
              · rw [if_pos h5] at ho; cases ho
              · rw [if_neg h5] at ho
                cases ho
                exact ⟨rfl, rfl, h3, h5⟩
        · rw [if_neg h3] at ho; cases ho
    obtain ⟨rfl, rfl, h3, h6⟩ := hh
    have ha := hc a rfl
    have h1 := mt_new h (by omega) (hq b rfl) bar
    have e1 : sp_L (sp_u (sp_n0 N b) 8 a 4) (N 6 0) = sp_L (sp_u (sp_AN N b) 8 a 4) (N 6 0) := by
      refine sp_L_ext (fun f hf => ?_) (fun u hu => ?_)
      · rw [sp_u_f _ _ _ hf, sp_u_f _ _ _ hf, sp_n0_AN N b hf]
      · rw [sp_u8, sp_u8, sp_n0_AN8 N b hu]
    have h2 := mt_caller h1 (n := N 6 0) (c := a) (by rw [sp_n0_6]; omega) (by rw [sp_n0_8, if_pos rfl]) (sp_AO_n N O (Or.inl rfl)) ha (by rw [sp_n0_8, if_neg (by omega)]; exact h3)
    have h4 := mt_line h2 (t := N 6 0) (by rw [sp_u_n _ _ (Or.inl (by decide)), sp_n0_6]; omega) (by rw [sp_u8, if_neg (by omega), sp_n0_8, if_pos rfl]; decide)
    have e7 : sp_u (sp_n0 N b) 8 a 4 7 = sp_AN N b 7 := by rw [sp_u_f _ _ _ (by decide), sp_n0_AN N b (by decide)]
    rw [e1, cs_lM_cg e7, e7] at h4
    obtain ⟨k1, k2⟩ := cl_k_b (N' := sp_L (sp_u (sp_AN N b) 8 a 4) (N 6 0)) hk hk2 (sp_LA_1 _ _) (sp_LA_6 _ _)
    exact ⟨k1, k2, h4⟩
theorem mt_when (hk : cl_k ks N) (hk2 : cl_k2 ks N) (h : cl_R M X F G N O Z B) {g q : Option Nat} (hg : ∀ k, g = some k → k < 4) (hq : ∀ k, q = some k → k < N 1 0) : cl_R5 (cu_when ks M X F G N g q) (nm_when N O g q) (om_when N O g q) Z (bm_when N B g q) := by
  cases g with
  | none => exact ⟨hk, hk2, h⟩
  | some k =>
    cases q with
    | none => exact ⟨hk, hk2, h⟩
    | some a =>
      have h160 := cl_160 h.1
      have hk4 := hg k rfl
      have hd := h.2.1.2.2.2 k hk4
      unfold cu_when nm_when om_when bm_when
      dsimp only
      by_cases h6 : N 6 0 = 160
      · rw [if_pos h6, if_pos h6, if_pos h6, if_pos h6]; exact ⟨hk, hk2, h⟩
      · rw [if_neg h6, if_neg h6, if_neg h6, if_neg h6]
        have h1 := mt_new h (by omega) (hq a rfl) false
        have hgg : sp_g (sp_AN N a) (sp_u (sp_AO N O) 11 (N 6 0) (some k)) k = M (4 + k) 0 + M (4 + k) 1 := by
          rw [hd.1, hd.2]
          unfold sp_g sp_om
          rw [sp_u_f _ _ _ (show 10 ≠ 11 by decide), sp_AN_6]
          have e17 : sp_AN N a 17 k = N 17 k := by
            rw [← sp_n0_AN N a (by decide), sp_n0_e N a (by decide) (by decide) (by decide)]
          rw [e17]
          refine congrArg (fun z => N 17 k + z) (sp_c_new (fun u hu => ?_) ?_)
          · rw [sp_AN_8, if_neg (by omega), sp_AO_o N O (by omega)]
          · rw [sp_AO_n N O (Or.inr (Or.inl rfl))]; rfl
        have hcm : ∀ f, cs_AM M (N 6 0) (4 + k) f = M (4 + k) f := fun f => cs_AM_0 M _ (by omega) (by omega)
        rw [hgg, hcm, hcm]
        by_cases h0 : M (4 + k) 0 = 0 ∧ M (4 + k) 1 = 0
        · rw [if_pos h0, if_pos (by omega)]
          obtain ⟨k1, k2⟩ := cl_k_b (N' := sp_L (sp_AN N a) (N 6 0)) hk hk2 (sp_LA_1 _ _) (sp_LA_6 _ _)
          exact ⟨k1, k2, mt_await2 (mt_nline h1) (by rw [sp_L8, if_pos rfl]; decide) hk4⟩
        · rw [if_neg h0, if_neg (by omega)]
          obtain ⟨k1, k2⟩ := cl_k_b (N' := sp_n0 N a) hk hk2 (by rw [sp_n0_e N a (by decide) (by decide) (by decide)]) (sp_n0_6 N a)
          exact ⟨k1, k2, mt_await h1 (n := N 6 0) (by rw [sp_n0_6]; omega) (by rw [sp_n0_8, if_pos rfl]) hk4⟩
theorem mt_queue (hk : cl_k ks N) (hk2 : cl_k2 ks N) (h : cl_R M X F G N O Z B) {q w : Option Nat} (hq : ∀ k, q = some k → k < N 1 0) (hw : ∀ k, w = some k → 1 ≤ k ∧ k ≤ 8) : cl_R5 (cu_queue ks M X F G N q w) (nm_queue N q w) O Z B := by
  cases q with
  | none => exact ⟨hk, hk2, h⟩
  | some a =>
    cases w with
    | none => exact ⟨hk, hk2, h⟩
    | some b =>
      have h12 := cl_12 h.1
      unfold cu_queue nm_queue
      dsimp only
      by_cases h1 : N 1 0 = 12
      · rw [if_pos h1, if_pos h1]; exact ⟨hk, hk2, h⟩
      · rw [if_neg h1, if_neg h1]
        obtain ⟨k1, k2⟩ := cl_k_q (N' := sp_nq N a b) hk hk2 (sp_nq_1 N a b) (by rw [sp_nq_e N a b (by decide) (by decide) (by decide)])
        exact ⟨k1, k2, mt_nq h (by omega) (hq a rfl) (hw b rfl).1 (hw b rfl).2⟩
end MW
