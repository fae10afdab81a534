/-! Part 48: advance. -/
section MA
variable {M : sp_N} {X : sp_B} {F F' : sp_O} {G : sp_Z} {N N' : sp_N} {O : sp_O} {Z : sp_Z} {B : sp_B} {t : Nat}
theorem i64_mod {x : Int} (h1 : -9223372036854775808 ≤ x) (h2 : x ≤ 9223372036854775807) : x.bmod (2 ^ 64) = x := by
  rw [Int.bmod_def]
  have e : ((2 ^ 64 : Nat) : Int) = 18446744073709551616 := by decide
  rw [e]
  split <;> omega
theorem i64_clock {g d : Int64} (hg0 : 0 ≤ g) (hg1 : g ≤ 9223372036854775806) (hd : ¬ d < 0) (hle : d ≤ 9223372036854775806 - g) : 0 ≤ g + d ∧ g + d ≤ 9223372036854775806 := by
  have e0 : (0 : Int64).toInt = 0 := by decide
  have em : (9223372036854775806 : Int64).toInt = 9223372036854775806 := by decide
  rw [Int64.le_iff_toInt_le, e0] at hg0
  rw [Int64.le_iff_toInt_le, em] at hg1
  rw [Int64.lt_iff_toInt_lt, e0] at hd
  rw [Int64.le_iff_toInt_le, Int64.toInt_sub, em, i64_mod (by omega) (by omega)] at hle
  rw [Int64.le_iff_toInt_le, Int64.le_iff_toInt_le, e0, em, Int64.toInt_add, i64_mod (by omega) (by omega)]
  omega
theorem mt_clock (h : cl_R M X F G N O Z B) (d : Int64) : cl_R M X F (cg_adv G d) N O (zm_adv Z d) B := by
  unfold cg_adv zm_adv
  by_cases hd : d < 0
  · rw [if_pos hd, if_pos hd]; exact h
  · rw [if_neg hd, if_neg hd]
    obtain ⟨hS, ⟨⟨a1, a2, a3, a4⟩, b, c, dd⟩, hV, hB⟩ := h
    obtain ⟨v1, v2, v3, v4, v5, v6, v7, v8, v9, v10, v11, v12, v13⟩ := hV
    have hle : ¬ (9223372036854775806 - Z 18 0 < d) ↔ d ≤ 9223372036854775806 - Z 18 0 := Int64.not_lt
    refine ⟨hS, ⟨⟨a1, a2, a3, ?_⟩, b, fun u hu => ?_, dd⟩, ⟨v1, v2, v3, v4, v5, v6, v7, v8, v9, v10, v11, v12, ?_⟩, hB⟩
    · rw [sp_u_self, sp_u_self, a4]
      by_cases h1 : 9223372036854775806 - Z 18 0 < d
      · rw [if_pos h1, if_neg (fun z => hle.mpr z h1), Int64.add_comm, Int64.sub_add_cancel]
      · rw [if_neg h1, if_pos (hle.mp h1)]
    · rw [sp_u_n _ _ (Or.inl (by omega)), sp_u_n _ _ (Or.inl (by decide))]
      exact c u hu
    · rw [sp_u_self]
      by_cases h1 : d ≤ 9223372036854775806 - Z 18 0
      · rw [if_pos h1]; exact i64_clock v13.1 v13.2 hd h1
      · rw [if_neg h1]; exact ⟨by decide, by decide⟩
theorem mt_av {f : Nat} : ∀ {M : sp_N} {F : sp_O} {N' : sp_N}, cl_R M X F G N' O Z B → (∀ i, i ≠ 8 → i ≠ 12 → i ≠ 16 → N' i = N i) → cs_ac N G f M F = sp_ac Z f N' ∧ cl_R (cs_av N G f M F).1 X (cs_av N G f M F).2 G (sp_av Z f N') O Z B ∧ cs_oka N G f M F ∧ sp_oka O Z f N' := by
  induction f with
  | zero => intro M F N' h _; exact ⟨rfl, h, h.2.2.2, h.2.2.1.1.2.1⟩
  | succ f ih =>
    intro M F N' h he
    have e6 := he 6 (by decide) (by decide) (by decide)
    have e7 := he 7 (by decide) (by decide) (by decide)
    obtain ⟨hd1, hd2⟩ := mr_d h.2.1 (N' 6 0) (Nat.le_refl _)
    rw [e6] at hd1
    have step : ∀ t, sp_d N' Z (N' 6 0) = some t → cs_ac N G f (cs_lM M N t) (cs_aF F (N 7 t) t) = sp_ac Z f (sp_L N' t) ∧ cl_R (cs_av N G f (cs_lM M N t) (cs_aF F (N 7 t) t)).1 X (cs_av N G f (cs_lM M N t) (cs_aF F (N 7 t) t)).2 G (sp_av Z f (sp_L N' t)) O Z B ∧ cs_oka N G f (cs_lM M N t) (cs_aF F (N 7 t) t) ∧ sp_oka O Z f (sp_L N' t) := by
      intro t ht
      obtain ⟨q1, q2, _⟩ := hd2 t ht
      have k1 := mt_line h q1 (by omega)
      rw [cs_lM_cg e7, e7] at k1
      exact ih k1 (fun i a b c => (sp_L_e N' t a b c).trans (he i a b c))
    unfold cs_ac cs_av sp_ac sp_av cs_oka sp_oka
    rw [hd1, ← e6]
    cases hs : sp_d N' Z (N' 6 0) with
    | none => exact ⟨rfl, h, ⟨h.2.2.2, fun t z => by cases z⟩, h.2.2.1.1.2.1, fun t z => by cases z⟩
    | some t =>
      obtain ⟨s1, s2, s3, s4⟩ := step t hs
      dsimp only
      exact ⟨by rw [s1], s2, ⟨h.2.2.2, fun u z => by cases z; exact s3⟩, h.2.2.1.1.2.1, fun u z => by cases z; exact s4⟩
theorem mt_advance (h : cl_R M X F G N O Z B) (d : Int64) : (if d < 0 then (-9 : Int32) else nI (cs_ac N (cg_adv G d) 160 M F)) = am_adv N Z d ∧ cl_R ((if d < 0 then (M, F) else cs_av N (cg_adv G d) 160 M F).1) X ((if d < 0 then (M, F) else cs_av N (cg_adv G d) 160 M F).2) (cg_adv G d) (nm_adv N Z d) O (zm_adv Z d) B ∧ (¬ d < 0 → cs_oka N (cg_adv G d) 160 M F) ∧ sp_oka O (zm_adv Z d) 160 N := by
  have h1 := mt_clock h d
  obtain ⟨s1, s2, s3, s4⟩ := mt_av (f := 160) (N := N) h1 (fun _ _ _ _ => rfl)
  refine ⟨?_, ?_, fun _ => s3, s4⟩
  · unfold am_adv
    rw [s1]
  · unfold nm_adv
    by_cases hd : d < 0
    · rw [if_pos hd, if_pos hd]; exact h1
    · rw [if_neg hd, if_neg hd]; exact s2
end MA
