/-! Part 28: constructors of Block, Queue, Group, each on its own cell. By wip/gen/gen_init.py. -/
def ci_B : List Value := [.int (nI 0), .null, .int (bd_b false), .int (nI 0), .int (bd_b false), .null, .null, .null, .long 0, .int (nI 0), .null]
def ci_Q : List Value := [.int (nI 0), .int (nI 0), .null, .int (nI 0), .null, .null, .int (nI 0), .int (nI 0), .int (nI 0), .int (bd_b false)]
def ci_G : List Value := [.int (nI 0), .int (nI 0)]
theorem ci_one (a : Nat) (x : va_E) : va_D (fun q => q = a) [(a, x)] := ⟨fun i j p q hi hj _ => by
  have h1 : i < 1 := (List.getElem?_eq_some_iff.mp hi).1
  have h2 : j < 1 := (List.getElem?_eq_some_iff.mp hj).1
  omega, fun k q hk => by
  have h1 : k < 1 := (List.getElem?_eq_some_iff.mp hk).1
  have h2 : k = 0 := by omega
  subst h2
  cases hk
  rfl⟩
set_option maxHeartbeats 1000000 in
set_option maxRecDepth 100000 in
theorem ci_B_init (l : Launch) (D : va_G) (a : Nat) (t b : Nat) (bar : Bool) : Met l my_B_init (Cond.code my_B_init cd_B_init 4 none :: bg_tbl) ({ frames := 1, cells := 0, slots := 0, locals := 12 }) (va_Pc [.ref a, .int (nI t), .ref b, .int (bd_b bar)] (fun U => va_P D vw_cl [(a, .inr (0, [.int (nI 0), .null, .int (bd_b false), .int (nI 0), .int (bd_b false), .null, .null, .null, .long 0, .int (nI 0), .null]))] U.heap ∧ va_K D vw_cl [] U)) (va_Qv (fun (_ : Unit) => True) (fun _ uu => va_P D vw_cl [(a, .inr (0, [.int (nI t), .ref b, .int (bd_b bar), .int (nI 0), .int (bd_b false), .null, .null, .null, .long 0, .int (nI 0), .null]))] uu.heap) (fun q => q = a)) 0 0 (fun q => q = a) := by
  refine Met.ofW (cc := cd_B_init) (maxL := 4) (ret := none) (by decide) rfl ?_
  intro p e s m args below meth c s₁ BB hml hv
  obtain ⟨rfl, hP, hK⟩ := hv
  have hx := BB.exec
  have hb := BB.bytes
  have hr := BB.returns
  have hts : ∀ w ∈ bg_tbl, w.before ([.ref a, .int (nI t), .ref b, .int (bd_b bar)] : List Value).toArray s = true := fun w h => atoms_spec (ws := (Cond.code my_B_init cd_B_init 4 none :: bg_tbl)) BB.pre w (List.mem_cons_of_mem _ h)
  have hown : s.vm.findClass rn_B = some m.cls := findClass_of_methodNamed BB.named
  have hlocks := BB.notSynchronized
  have hin : meth.name = "<init>" := (name_of_methodNamed BB.named BB.method).1
  have hS : va_S (fun q => q = a) s.heap s.heap [] := va_S.rf
  have hl := lv_entry ([.ref a, .int (nI t), .ref b, .int (bd_b bar)]) (n := 4) (Nat.le_of_ble_eq_true rfl)
  rw [lg_entry_eq]
  generalize (lg_sl ([.ref a, .int (nI t), .ref b, .int (bd_b bar)]) ++ List.replicate (4 - (lg_sl ([.ref a, .int (nI t), .ref b, .int (bd_b bar)])).length) Slot.unset).toArray = ls at hl ⊢
  have hl : lv_has ls 4 [(0, .ref a), (1, .int (nI t)), (2, .ref b), (3, .int (bd_b bar))] := hl
  refine lv_aload_n hx hb dd_B_init_0 rfl (lv_at hl 0 rfl) ?_
  refine W.objInit hx hb hown (hts _ tw_ml_B_3) (hts _ tw_im_O_init) (hts _ tw_co_O_init) rfl (by rw [hml]; exact hl.1) rfl dd_B_init_1 (Nat.le_of_ble_eq_true rfl) (Nat.le_of_ble_eq_true rfl) ?_
  refine W.eq (g2 := F0 m 4 ls []) rfl ?_
  refine lv_aload_n hx hb dd_B_init_4 rfl (lv_at hl 0 rfl) ?_
  refine lv_iload_n hx hb dd_B_init_5 rfl (lv_at hl 1 rfl) ?_
  refine va_putF (D := D) (ci := 0) (v := .int (nI t)) (ty := fy_B 0) (C := rn_B) (T := ft_B) (N := 11) hx hb hts tw_fs_B fy_B fo_B fn_B hown hK hP (ci_one _ _) hS 0 rfl rfl 0 (by decide) (hts _ tw_fl_B_9) (fun _ h9 => h9) rfl hin rfl (fo_B 0 (by decide)) rfl rfl (Nat.le_of_ble_eq_true rfl) dd_B_init_6 (fun H locs hP _ hS => ?_)
  have hP : va_P D vw_cl [(a, .inr (0, [.int (nI t), .null, .int (bd_b false), .int (nI 0), .int (bd_b false), .null, .null, .null, .long 0, .int (nI 0), .null]))] H := hP
  refine lv_aload_n hx hb dd_B_init_9 rfl (lv_at hl 0 rfl) ?_
  refine lv_aload_n hx hb dd_B_init_10 rfl (lv_at hl 2 rfl) ?_
  refine va_putF (D := D) (ci := 0) (v := .ref b) (ty := fy_B 1) (C := rn_B) (T := ft_B) (N := 11) hx hb hts tw_fs_B fy_B fo_B fn_B hown hK hP (ci_one _ _) hS 0 rfl rfl 1 (by decide) (hts _ tw_fl_B_15) (fun _ h9 => h9) rfl hin rfl (fo_B 1 (by decide)) rfl rfl (Nat.le_of_ble_eq_true rfl) dd_B_init_11 (fun H locs hP _ hS => ?_)
  have hP : va_P D vw_cl [(a, .inr (0, [.int (nI t), .ref b, .int (bd_b false), .int (nI 0), .int (bd_b false), .null, .null, .null, .long 0, .int (nI 0), .null]))] H := hP
  refine lv_aload_n hx hb dd_B_init_14 rfl (lv_at hl 0 rfl) ?_
  refine lv_iload_n hx hb dd_B_init_15 rfl (lv_at hl 3 rfl) ?_
  refine va_putF (D := D) (ci := 0) (v := .int (bd_b bar)) (ty := fy_B 2) (C := rn_B) (T := ft_B) (N := 11) hx hb hts tw_fs_B fy_B fo_B fn_B hown hK hP (ci_one _ _) hS 0 rfl rfl 2 (by decide) (hts _ tw_fl_B_19) (fun _ h9 => h9) rfl hin rfl (fo_B 2 (by decide)) (bd_b_nar _) (bd_b_fit _) (Nat.le_of_ble_eq_true rfl) dd_B_init_16 (fun H locs hP _ hS => ?_)
  have hP : va_P D vw_cl [(a, .inr (0, [.int (nI t), .ref b, .int (bd_b bar), .int (nI 0), .int (bd_b false), .null, .null, .null, .long 0, .int (nI 0), .null]))] H := hP
  exact W.vret hx hb hr (fun tt htt hWW => ⟨⟨(), rfl, trivial, by show va_P D vw_cl _ tt.heap; rw [htt]; exact hP⟩, hS.F htt⟩) hS.2.2 dd_B_init_19

set_option maxHeartbeats 1000000 in
set_option maxRecDepth 100000 in
theorem ci_Q_init (l : Launch) (D : va_G) (a : Nat) (t b wd : Nat) : Met l my_Q_init (Cond.code my_Q_init cd_Q_init 4 none :: bg_tbl) ({ frames := 1, cells := 0, slots := 0, locals := 12 }) (va_Pc [.ref a, .int (nI t), .ref b, .int (nI wd)] (fun U => va_P D vw_cl [(a, .inr (2, [.int (nI 0), .int (nI 0), .null, .int (nI 0), .null, .null, .int (nI 0), .int (nI 0), .int (nI 0), .int (bd_b false)]))] U.heap ∧ va_K D vw_cl [] U)) (va_Qv (fun (_ : Unit) => True) (fun _ uu => va_P D vw_cl [(a, .inr (2, [.int (nI t), .int (nI wd), .ref b, .int (nI 0), .null, .null, .int (nI 0), .int (nI 0), .int (nI 0), .int (bd_b false)]))] uu.heap) (fun q => q = a)) 0 0 (fun q => q = a) := by
  refine Met.ofW (cc := cd_Q_init) (maxL := 4) (ret := none) (by decide) rfl ?_
  intro p e s m args below meth c s₁ BB hml hv
  obtain ⟨rfl, hP, hK⟩ := hv
  have hx := BB.exec
  have hb := BB.bytes
  have hr := BB.returns
  have hts : ∀ w ∈ bg_tbl, w.before ([.ref a, .int (nI t), .ref b, .int (nI wd)] : List Value).toArray s = true := fun w h => atoms_spec (ws := (Cond.code my_Q_init cd_Q_init 4 none :: bg_tbl)) BB.pre w (List.mem_cons_of_mem _ h)
  have hown : s.vm.findClass rn_Q = some m.cls := findClass_of_methodNamed BB.named
  have hlocks := BB.notSynchronized
  have hin : meth.name = "<init>" := (name_of_methodNamed BB.named BB.method).1
  have hS : va_S (fun q => q = a) s.heap s.heap [] := va_S.rf
  have hl := lv_entry ([.ref a, .int (nI t), .ref b, .int (nI wd)]) (n := 4) (Nat.le_of_ble_eq_true rfl)
  rw [lg_entry_eq]
  generalize (lg_sl ([.ref a, .int (nI t), .ref b, .int (nI wd)]) ++ List.replicate (4 - (lg_sl ([.ref a, .int (nI t), .ref b, .int (nI wd)])).length) Slot.unset).toArray = ls at hl ⊢
  have hl : lv_has ls 4 [(0, .ref a), (1, .int (nI t)), (2, .ref b), (3, .int (nI wd))] := hl
  refine lv_aload_n hx hb dd_Q_init_0 rfl (lv_at hl 0 rfl) ?_
  refine W.objInit hx hb hown (hts _ tw_ml_Q_1) (hts _ tw_im_O_init) (hts _ tw_co_O_init) rfl (by rw [hml]; exact hl.1) rfl dd_Q_init_1 (Nat.le_of_ble_eq_true rfl) (Nat.le_of_ble_eq_true rfl) ?_
  refine W.eq (g2 := F0 m 4 ls []) rfl ?_
  refine lv_aload_n hx hb dd_Q_init_4 rfl (lv_at hl 0 rfl) ?_
  refine lv_iload_n hx hb dd_Q_init_5 rfl (lv_at hl 1 rfl) ?_
  refine va_putF (D := D) (ci := 2) (v := .int (nI t)) (ty := fy_Q 0) (C := rn_Q) (T := ft_Q) (N := 10) hx hb hts tw_fs_Q fy_Q fo_Q fn_Q hown hK hP (ci_one _ _) hS 0 rfl rfl 0 (by decide) (hts _ tw_fl_Q_7) (fun _ h9 => h9) rfl hin rfl (fo_Q 0 (by decide)) rfl rfl (Nat.le_of_ble_eq_true rfl) dd_Q_init_6 (fun H locs hP _ hS => ?_)
  have hP : va_P D vw_cl [(a, .inr (2, [.int (nI t), .int (nI 0), .null, .int (nI 0), .null, .null, .int (nI 0), .int (nI 0), .int (nI 0), .int (bd_b false)]))] H := hP
  refine lv_aload_n hx hb dd_Q_init_9 rfl (lv_at hl 0 rfl) ?_
  refine lv_aload_n hx hb dd_Q_init_10 rfl (lv_at hl 2 rfl) ?_
  refine va_put (D := D) (ci := 2) (v := .ref b) (ty := fy_Q 2) (C := rn_Q) (T := ft_Q) (N := 10) hx hb hts tw_fs_Q fy_Q fo_Q fn_Q hown hK hP (ci_one _ _) hS 0 rfl rfl 2 (by decide) (hts _ tw_fl_Q_13) (fun _ h9 => h9) rfl (fo_Q 2 (by decide)) rfl rfl (Nat.le_of_ble_eq_true rfl) dd_Q_init_11 (fun H locs hP _ hS => ?_)
  have hP : va_P D vw_cl [(a, .inr (2, [.int (nI t), .int (nI 0), .ref b, .int (nI 0), .null, .null, .int (nI 0), .int (nI 0), .int (nI 0), .int (bd_b false)]))] H := hP
  refine lv_aload_n hx hb dd_Q_init_14 rfl (lv_at hl 0 rfl) ?_
  refine lv_iload_n hx hb dd_Q_init_15 rfl (lv_at hl 3 rfl) ?_
  refine va_putF (D := D) (ci := 2) (v := .int (nI wd)) (ty := fy_Q 1) (C := rn_Q) (T := ft_Q) (N := 10) hx hb hts tw_fs_Q fy_Q fo_Q fn_Q hown hK hP (ci_one _ _) hS 0 rfl rfl 1 (by decide) (hts _ tw_fl_Q_17) (fun _ h9 => h9) rfl hin rfl (fo_Q 1 (by decide)) rfl rfl (Nat.le_of_ble_eq_true rfl) dd_Q_init_16 (fun H locs hP _ hS => ?_)
  have hP : va_P D vw_cl [(a, .inr (2, [.int (nI t), .int (nI wd), .ref b, .int (nI 0), .null, .null, .int (nI 0), .int (nI 0), .int (nI 0), .int (bd_b false)]))] H := hP
  exact W.vret hx hb hr (fun tt htt hWW => ⟨⟨(), rfl, trivial, by show va_P D vw_cl _ tt.heap; rw [htt]; exact hP⟩, hS.F htt⟩) hS.2.2 dd_Q_init_19

set_option maxHeartbeats 1000000 in
set_option maxRecDepth 100000 in
theorem ci_Q_initn (l : Launch) (D : va_G) (a : Nat) (t wd : Nat) : Met l my_Q_init (Cond.code my_Q_init cd_Q_init 4 none :: bg_tbl) ({ frames := 1, cells := 0, slots := 0, locals := 12 }) (va_Pc [.ref a, .int (nI t), .null, .int (nI wd)] (fun U => va_P D vw_cl [(a, .inr (2, [.int (nI 0), .int (nI 0), .null, .int (nI 0), .null, .null, .int (nI 0), .int (nI 0), .int (nI 0), .int (bd_b false)]))] U.heap ∧ va_K D vw_cl [] U)) (va_Qv (fun (_ : Unit) => True) (fun _ uu => va_P D vw_cl [(a, .inr (2, [.int (nI t), .int (nI wd), .null, .int (nI 0), .null, .null, .int (nI 0), .int (nI 0), .int (nI 0), .int (bd_b false)]))] uu.heap) (fun q => q = a)) 0 0 (fun q => q = a) := by
  refine Met.ofW (cc := cd_Q_init) (maxL := 4) (ret := none) (by decide) rfl ?_
  intro p e s m args below meth c s₁ BB hml hv
  obtain ⟨rfl, hP, hK⟩ := hv
  have hx := BB.exec
  have hb := BB.bytes
  have hr := BB.returns
  have hts : ∀ w ∈ bg_tbl, w.before ([.ref a, .int (nI t), .null, .int (nI wd)] : List Value).toArray s = true := fun w h => atoms_spec (ws := (Cond.code my_Q_init cd_Q_init 4 none :: bg_tbl)) BB.pre w (List.mem_cons_of_mem _ h)
  have hown : s.vm.findClass rn_Q = some m.cls := findClass_of_methodNamed BB.named
  have hlocks := BB.notSynchronized
  have hin : meth.name = "<init>" := (name_of_methodNamed BB.named BB.method).1
  have hS : va_S (fun q => q = a) s.heap s.heap [] := va_S.rf
  have hl := lv_entry ([.ref a, .int (nI t), .null, .int (nI wd)]) (n := 4) (Nat.le_of_ble_eq_true rfl)
  rw [lg_entry_eq]
  generalize (lg_sl ([.ref a, .int (nI t), .null, .int (nI wd)]) ++ List.replicate (4 - (lg_sl ([.ref a, .int (nI t), .null, .int (nI wd)])).length) Slot.unset).toArray = ls at hl ⊢
  have hl : lv_has ls 4 [(0, .ref a), (1, .int (nI t)), (2, .null), (3, .int (nI wd))] := hl
  refine lv_aload_n hx hb dd_Q_init_0 rfl (lv_at hl 0 rfl) ?_
  refine W.objInit hx hb hown (hts _ tw_ml_Q_1) (hts _ tw_im_O_init) (hts _ tw_co_O_init) rfl (by rw [hml]; exact hl.1) rfl dd_Q_init_1 (Nat.le_of_ble_eq_true rfl) (Nat.le_of_ble_eq_true rfl) ?_
  refine W.eq (g2 := F0 m 4 ls []) rfl ?_
  refine lv_aload_n hx hb dd_Q_init_4 rfl (lv_at hl 0 rfl) ?_
  refine lv_iload_n hx hb dd_Q_init_5 rfl (lv_at hl 1 rfl) ?_
  refine va_putF (D := D) (ci := 2) (v := .int (nI t)) (ty := fy_Q 0) (C := rn_Q) (T := ft_Q) (N := 10) hx hb hts tw_fs_Q fy_Q fo_Q fn_Q hown hK hP (ci_one _ _) hS 0 rfl rfl 0 (by decide) (hts _ tw_fl_Q_7) (fun _ h9 => h9) rfl hin rfl (fo_Q 0 (by decide)) rfl rfl (Nat.le_of_ble_eq_true rfl) dd_Q_init_6 (fun H locs hP _ hS => ?_)
  have hP : va_P D vw_cl [(a, .inr (2, [.int (nI t), .int (nI 0), .null, .int (nI 0), .null, .null, .int (nI 0), .int (nI 0), .int (nI 0), .int (bd_b false)]))] H := hP
  refine lv_aload_n hx hb dd_Q_init_9 rfl (lv_at hl 0 rfl) ?_
  refine lv_aload_nN hx hb dd_Q_init_10 rfl (lv_at hl 2 rfl) ?_
  refine va_put (D := D) (ci := 2) (v := .null) (ty := fy_Q 2) (C := rn_Q) (T := ft_Q) (N := 10) hx hb hts tw_fs_Q fy_Q fo_Q fn_Q hown hK hP (ci_one _ _) hS 0 rfl rfl 2 (by decide) (hts _ tw_fl_Q_13) (fun _ h9 => h9) rfl (fo_Q 2 (by decide)) rfl rfl (Nat.le_of_ble_eq_true rfl) dd_Q_init_11 (fun H locs hP _ hS => ?_)
  have hP : va_P D vw_cl [(a, .inr (2, [.int (nI t), .int (nI 0), .null, .int (nI 0), .null, .null, .int (nI 0), .int (nI 0), .int (nI 0), .int (bd_b false)]))] H := hP
  refine lv_aload_n hx hb dd_Q_init_14 rfl (lv_at hl 0 rfl) ?_
  refine lv_iload_n hx hb dd_Q_init_15 rfl (lv_at hl 3 rfl) ?_
  refine va_putF (D := D) (ci := 2) (v := .int (nI wd)) (ty := fy_Q 1) (C := rn_Q) (T := ft_Q) (N := 10) hx hb hts tw_fs_Q fy_Q fo_Q fn_Q hown hK hP (ci_one _ _) hS 0 rfl rfl 1 (by decide) (hts _ tw_fl_Q_17) (fun _ h9 => h9) rfl hin rfl (fo_Q 1 (by decide)) rfl rfl (Nat.le_of_ble_eq_true rfl) dd_Q_init_16 (fun H locs hP _ hS => ?_)
  have hP : va_P D vw_cl [(a, .inr (2, [.int (nI t), .int (nI wd), .null, .int (nI 0), .null, .null, .int (nI 0), .int (nI 0), .int (nI 0), .int (bd_b false)]))] H := hP
  exact W.vret hx hb hr (fun tt htt hWW => ⟨⟨(), rfl, trivial, by show va_P D vw_cl _ tt.heap; rw [htt]; exact hP⟩, hS.F htt⟩) hS.2.2 dd_Q_init_19

set_option maxHeartbeats 1000000 in
set_option maxRecDepth 100000 in
theorem ci_G_init (l : Launch) (D : va_G) (a : Nat)  : Met l my_G_init (Cond.code my_G_init cd_G_init 1 none :: bg_tbl) ({ frames := 1, cells := 0, slots := 0, locals := 12 }) (va_Pc [.ref a] (fun U => va_P D vw_cl [(a, .inr (1, [.int (nI 0), .int (nI 0)]))] U.heap ∧ va_K D vw_cl [] U)) (va_Qv (fun (_ : Unit) => True) (fun _ uu => va_P D vw_cl [(a, .inr (1, [.int (nI 0), .int (nI 0)]))] uu.heap) (fun q => q = a)) 0 0 (fun q => q = a) := by
  refine Met.ofW (cc := cd_G_init) (maxL := 1) (ret := none) (by decide) rfl ?_
  intro p e s m args below meth c s₁ BB hml hv
  obtain ⟨rfl, hP, hK⟩ := hv
  have hx := BB.exec
  have hb := BB.bytes
  have hr := BB.returns
  have hts : ∀ w ∈ bg_tbl, w.before ([.ref a] : List Value).toArray s = true := fun w h => atoms_spec (ws := (Cond.code my_G_init cd_G_init 1 none :: bg_tbl)) BB.pre w (List.mem_cons_of_mem _ h)
  have hown : s.vm.findClass rn_G = some m.cls := findClass_of_methodNamed BB.named
  have hlocks := BB.notSynchronized
  have hin : meth.name = "<init>" := (name_of_methodNamed BB.named BB.method).1
  have hS : va_S (fun q => q = a) s.heap s.heap [] := va_S.rf
  have hl := lv_entry ([.ref a]) (n := 1) (Nat.le_of_ble_eq_true rfl)
  rw [lg_entry_eq]
  generalize (lg_sl ([.ref a]) ++ List.replicate (1 - (lg_sl ([.ref a])).length) Slot.unset).toArray = ls at hl ⊢
  have hl : lv_has ls 1 [(0, .ref a)] := hl
  refine lv_aload_n hx hb dd_G_init_0 rfl (lv_at hl 0 rfl) ?_
  refine W.objInit hx hb hown (hts _ tw_ml_G_1) (hts _ tw_im_O_init) (hts _ tw_co_O_init) rfl (by rw [hml]; exact hl.1) rfl dd_G_init_1 (Nat.le_of_ble_eq_true rfl) (Nat.le_of_ble_eq_true rfl) ?_
  refine W.eq (g2 := F0 m 4 ls []) rfl ?_
  exact W.vret hx hb hr (fun tt htt hWW => ⟨⟨(), rfl, trivial, by show va_P D vw_cl _ tt.heap; rw [htt]; exact hP⟩, hS.F htt⟩) hS.2.2 dd_G_init_4

