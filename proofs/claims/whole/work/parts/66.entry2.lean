/-! Part 66: the classes are known at the law's entry. -/
theorem lw_D {s : State} {args : Array Value} (hts : ∀ w ∈ bg_tbl, w.before args s = true) : ∃ D : va_G, va_K D vw_cl [] s := by
  obtain ⟨c0, i0, k0⟩ := u_known hts tw_fs_B (hts _ tw_is_B)
  obtain ⟨c1, i1, k1⟩ := u_known hts tw_fs_G (hts _ tw_is_G)
  obtain ⟨c2, i2, k2⟩ := u_known hts tw_fs_Q (hts _ tw_is_Q)
  obtain ⟨c3, i3, k3⟩ := u_known hts tw_fs_D (hts _ tw_is_D)
  obtain ⟨c4, i4, k4⟩ := u_known hts tw_fs_M (hts _ tw_is_M)
  refine ⟨(fun c => if c = 0 then c0 else if c = 1 then c1 else if c = 2 then c2 else if c = 3 then c3 else c4, fun c => if c = 0 then i0 else if c = 1 then i1 else if c = 2 then i2 else if c = 3 then i3 else i4), fun c q hq => ?_, fun k q h => by simp at h⟩
  rcases c with _ | _ | _ | _ | _ | c
  · cases hq; exact k0
  · cases hq; exact k1
  · cases hq; exact k2
  · cases hq; exact k3
  · cases hq; exact k4
  · cases hq
