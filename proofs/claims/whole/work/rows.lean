section
-- ===== PART A: goes FIRST, ahead of the names: the tables' words, and 'selects' of the private methods out of them =====
/-- a private method of a class that the tables say can be made, by its rows of tables_1 -/
def lw_okq (q : MethodName × Nat) : Prop := (q.1.cls ≠ "java/lang/invoke/MethodHandle" ∧ q.1.cls ≠ "java/lang/invoke/VarHandle") ∧ Cond.instantiable q.1.cls q.2 ∈ tables_1 ∧ Cond.privateMethod q.1 ∈ tables_1 ∧ Cond.instanceMethod q.1 ∈ tables_1
theorem lw_p0 : lw_okq (⟨"BarrierDispatch", "queueAt", "(I)LBarrierDispatch$Queue;"⟩, 9) := ⟨⟨by decide +kernel, by decide +kernel⟩, List.mem_of_getElem? (i := 8) (by decide +kernel), List.mem_of_getElem? (i := 119) (by decide +kernel), List.mem_of_getElem? (i := 120) (by decide +kernel)⟩
theorem lw_p1 : lw_okq (⟨"BarrierDispatch", "groupAt", "(I)LBarrierDispatch$Group;"⟩, 9) := ⟨⟨by decide +kernel, by decide +kernel⟩, List.mem_of_getElem? (i := 8) (by decide +kernel), List.mem_of_getElem? (i := 139) (by decide +kernel), List.mem_of_getElem? (i := 140) (by decide +kernel)⟩
theorem lw_p2 : lw_okq (⟨"BarrierDispatch", "isFull", "()Z"⟩, 9) := ⟨⟨by decide +kernel, by decide +kernel⟩, List.mem_of_getElem? (i := 8) (by decide +kernel), List.mem_of_getElem? (i := 143) (by decide +kernel), List.mem_of_getElem? (i := 144) (by decide +kernel)⟩
theorem lw_p3 : lw_okq (⟨"BarrierDispatch", "accept", "(LBarrierDispatch$Queue;Z)LBarrierDispatch$Block;"⟩, 9) := ⟨⟨by decide +kernel, by decide +kernel⟩, List.mem_of_getElem? (i := 8) (by decide +kernel), List.mem_of_getElem? (i := 147) (by decide +kernel), List.mem_of_getElem? (i := 148) (by decide +kernel)⟩
theorem lw_p4 : lw_okq (⟨"BarrierDispatch", "line", "(LBarrierDispatch$Block;)V"⟩, 9) := ⟨⟨by decide +kernel, by decide +kernel⟩, List.mem_of_getElem? (i := 8) (by decide +kernel), List.mem_of_getElem? (i := 196) (by decide +kernel), List.mem_of_getElem? (i := 197) (by decide +kernel)⟩
theorem lw_p5 : lw_okq (⟨"BarrierDispatch", "deadlineIn", "(J)J"⟩, 9) := ⟨⟨by decide +kernel, by decide +kernel⟩, List.mem_of_getElem? (i := 8) (by decide +kernel), List.mem_of_getElem? (i := 208) (by decide +kernel), List.mem_of_getElem? (i := 209) (by decide +kernel)⟩
theorem lw_p6 : lw_okq (⟨"BarrierDispatch", "blockAt", "(I)LBarrierDispatch$Block;"⟩, 9) := ⟨⟨by decide +kernel, by decide +kernel⟩, List.mem_of_getElem? (i := 8) (by decide +kernel), List.mem_of_getElem? (i := 217) (by decide +kernel), List.mem_of_getElem? (i := 218) (by decide +kernel)⟩
theorem lw_p7 : lw_okq (⟨"BarrierDispatch", "releaseIfEmpty", "(LBarrierDispatch$Group;)V"⟩, 9) := ⟨⟨by decide +kernel, by decide +kernel⟩, List.mem_of_getElem? (i := 8) (by decide +kernel), List.mem_of_getElem? (i := 240) (by decide +kernel), List.mem_of_getElem? (i := 241) (by decide +kernel)⟩
theorem lw_p8 : lw_okq (⟨"BarrierDispatch", "choose", "()LBarrierDispatch$Block;"⟩, 9) := ⟨⟨by decide +kernel, by decide +kernel⟩, List.mem_of_getElem? (i := 8) (by decide +kernel), List.mem_of_getElem? (i := 260) (by decide +kernel), List.mem_of_getElem? (i := 261) (by decide +kernel)⟩
theorem lw_p9 : lw_okq (⟨"BarrierDispatch", "mayStart", "(LBarrierDispatch$Block;)Z"⟩, 9) := ⟨⟨by decide +kernel, by decide +kernel⟩, List.mem_of_getElem? (i := 8) (by decide +kernel), List.mem_of_getElem? (i := 264) (by decide +kernel), List.mem_of_getElem? (i := 265) (by decide +kernel)⟩
theorem lw_p10 : lw_okq (⟨"BarrierDispatch", "start", "(LBarrierDispatch$Block;)V"⟩, 9) := ⟨⟨by decide +kernel, by decide +kernel⟩, List.mem_of_getElem? (i := 8) (by decide +kernel), List.mem_of_getElem? (i := 293) (by decide +kernel), List.mem_of_getElem? (i := 294) (by decide +kernel)⟩
theorem lw_p11 : lw_okq (⟨"BarrierDispatch", "conclude", "(LBarrierDispatch$Block;I)V"⟩, 9) := ⟨⟨by decide +kernel, by decide +kernel⟩, List.mem_of_getElem? (i := 8) (by decide +kernel), List.mem_of_getElem? (i := 297) (by decide +kernel), List.mem_of_getElem? (i := 298) (by decide +kernel)⟩
theorem lw_p12 : lw_okq (⟨"BarrierDispatch", "withdraw", "(LBarrierDispatch$Block;)V"⟩, 9) := ⟨⟨by decide +kernel, by decide +kernel⟩, List.mem_of_getElem? (i := 8) (by decide +kernel), List.mem_of_getElem? (i := 305) (by decide +kernel), List.mem_of_getElem? (i := 306) (by decide +kernel)⟩
theorem lw_p13 : lw_okq (⟨"BarrierDispatch", "nextDue", "()LBarrierDispatch$Block;"⟩, 9) := ⟨⟨by decide +kernel, by decide +kernel⟩, List.mem_of_getElem? (i := 8) (by decide +kernel), List.mem_of_getElem? (i := 317) (by decide +kernel), List.mem_of_getElem? (i := 318) (by decide +kernel)⟩
theorem lw_p14 : lw_okq (⟨"BarrierDispatchModel", "isQueue", "(I)Z"⟩, 19) := ⟨⟨by decide +kernel, by decide +kernel⟩, List.mem_of_getElem? (i := 352) (by decide +kernel), List.mem_of_getElem? (i := 423) (by decide +kernel), List.mem_of_getElem? (i := 424) (by decide +kernel)⟩
theorem lw_p15 : lw_okq (⟨"BarrierDispatchModel", "leads", "(II)Z"⟩, 19) := ⟨⟨by decide +kernel, by decide +kernel⟩, List.mem_of_getElem? (i := 352) (by decide +kernel), List.mem_of_getElem? (i := 431) (by decide +kernel), List.mem_of_getElem? (i := 432) (by decide +kernel)⟩
def lw_privs_1 : List (MethodName × Nat) := [(⟨"BarrierDispatch", "queueAt", "(I)LBarrierDispatch$Queue;"⟩, 9), (⟨"BarrierDispatch", "groupAt", "(I)LBarrierDispatch$Group;"⟩, 9), (⟨"BarrierDispatch", "isFull", "()Z"⟩, 9), (⟨"BarrierDispatch", "accept", "(LBarrierDispatch$Queue;Z)LBarrierDispatch$Block;"⟩, 9), (⟨"BarrierDispatch", "line", "(LBarrierDispatch$Block;)V"⟩, 9), (⟨"BarrierDispatch", "deadlineIn", "(J)J"⟩, 9), (⟨"BarrierDispatch", "blockAt", "(I)LBarrierDispatch$Block;"⟩, 9), (⟨"BarrierDispatch", "releaseIfEmpty", "(LBarrierDispatch$Group;)V"⟩, 9), (⟨"BarrierDispatch", "choose", "()LBarrierDispatch$Block;"⟩, 9), (⟨"BarrierDispatch", "mayStart", "(LBarrierDispatch$Block;)Z"⟩, 9), (⟨"BarrierDispatch", "start", "(LBarrierDispatch$Block;)V"⟩, 9), (⟨"BarrierDispatch", "conclude", "(LBarrierDispatch$Block;I)V"⟩, 9), (⟨"BarrierDispatch", "withdraw", "(LBarrierDispatch$Block;)V"⟩, 9), (⟨"BarrierDispatch", "nextDue", "()LBarrierDispatch$Block;"⟩, 9), (⟨"BarrierDispatchModel", "isQueue", "(I)Z"⟩, 19), (⟨"BarrierDispatchModel", "leads", "(II)Z"⟩, 19)]
theorem lw_r1 : ∀ q ∈ lw_privs_1, lw_okq q := List.forall_mem_cons.mpr ⟨lw_p0, List.forall_mem_cons.mpr ⟨lw_p1, List.forall_mem_cons.mpr ⟨lw_p2, List.forall_mem_cons.mpr ⟨lw_p3, List.forall_mem_cons.mpr ⟨lw_p4, List.forall_mem_cons.mpr ⟨lw_p5, List.forall_mem_cons.mpr ⟨lw_p6, List.forall_mem_cons.mpr ⟨lw_p7, List.forall_mem_cons.mpr ⟨lw_p8, List.forall_mem_cons.mpr ⟨lw_p9, List.forall_mem_cons.mpr ⟨lw_p10, List.forall_mem_cons.mpr ⟨lw_p11, List.forall_mem_cons.mpr ⟨lw_p12, List.forall_mem_cons.mpr ⟨lw_p13, List.forall_mem_cons.mpr ⟨lw_p14, List.forall_mem_cons.mpr ⟨lw_p15, fun _ h => absurd h List.not_mem_nil⟩⟩⟩⟩⟩⟩⟩⟩⟩⟩⟩⟩⟩⟩⟩⟩
theorem lw_p16 : lw_okq (⟨"BarrierDispatchModel", "passing", "(I)I"⟩, 19) := ⟨⟨by decide +kernel, by decide +kernel⟩, List.mem_of_getElem? (i := 352) (by decide +kernel), List.mem_of_getElem? (i := 435) (by decide +kernel), List.mem_of_getElem? (i := 436) (by decide +kernel)⟩
theorem lw_p17 : lw_okq (⟨"BarrierDispatchModel", "live", "(I)Z"⟩, 19) := ⟨⟨by decide +kernel, by decide +kernel⟩, List.mem_of_getElem? (i := 352) (by decide +kernel), List.mem_of_getElem? (i := 439) (by decide +kernel), List.mem_of_getElem? (i := 440) (by decide +kernel)⟩
theorem lw_p18 : lw_okq (⟨"BarrierDispatchModel", "accept", "(IZ)I"⟩, 19) := ⟨⟨by decide +kernel, by decide +kernel⟩, List.mem_of_getElem? (i := 352) (by decide +kernel), List.mem_of_getElem? (i := 447) (by decide +kernel), List.mem_of_getElem? (i := 448) (by decide +kernel)⟩
theorem lw_p19 : lw_okq (⟨"BarrierDispatchModel", "line", "(I)V"⟩, 19) := ⟨⟨by decide +kernel, by decide +kernel⟩, List.mem_of_getElem? (i := 352) (by decide +kernel), List.mem_of_getElem? (i := 451) (by decide +kernel), List.mem_of_getElem? (i := 452) (by decide +kernel)⟩
theorem lw_p20 : lw_okq (⟨"BarrierDispatchModel", "isBlock", "(I)Z"⟩, 19) := ⟨⟨by decide +kernel, by decide +kernel⟩, List.mem_of_getElem? (i := 352) (by decide +kernel), List.mem_of_getElem? (i := 464) (by decide +kernel), List.mem_of_getElem? (i := 465) (by decide +kernel)⟩
theorem lw_p21 : lw_okq (⟨"BarrierDispatchModel", "inTheWay", "(IIZ)Z"⟩, 19) := ⟨⟨by decide +kernel, by decide +kernel⟩, List.mem_of_getElem? (i := 352) (by decide +kernel), List.mem_of_getElem? (i := 468) (by decide +kernel), List.mem_of_getElem? (i := 469) (by decide +kernel)⟩
theorem lw_p22 : lw_okq (⟨"BarrierDispatchModel", "countOf", "(I)I"⟩, 19) := ⟨⟨by decide +kernel, by decide +kernel⟩, List.mem_of_getElem? (i := 352) (by decide +kernel), List.mem_of_getElem? (i := 476) (by decide +kernel), List.mem_of_getElem? (i := 477) (by decide +kernel)⟩
theorem lw_p23 : lw_okq (⟨"BarrierDispatchModel", "release", "(I)V"⟩, 19) := ⟨⟨by decide +kernel, by decide +kernel⟩, List.mem_of_getElem? (i := 352) (by decide +kernel), List.mem_of_getElem? (i := 488) (by decide +kernel), List.mem_of_getElem? (i := 489) (by decide +kernel)⟩
theorem lw_p24 : lw_okq (⟨"BarrierDispatchModel", "chosen", "()I"⟩, 19) := ⟨⟨by decide +kernel, by decide +kernel⟩, List.mem_of_getElem? (i := 352) (by decide +kernel), List.mem_of_getElem? (i := 504) (by decide +kernel), List.mem_of_getElem? (i := 505) (by decide +kernel)⟩
theorem lw_p25 : lw_okq (⟨"BarrierDispatchModel", "mayStart", "(I)Z"⟩, 19) := ⟨⟨by decide +kernel, by decide +kernel⟩, List.mem_of_getElem? (i := 352) (by decide +kernel), List.mem_of_getElem? (i := 508) (by decide +kernel), List.mem_of_getElem? (i := 509) (by decide +kernel)⟩
theorem lw_p26 : lw_okq (⟨"BarrierDispatchModel", "oldest", "(I)I"⟩, 19) := ⟨⟨by decide +kernel, by decide +kernel⟩, List.mem_of_getElem? (i := 352) (by decide +kernel), List.mem_of_getElem? (i := 512) (by decide +kernel), List.mem_of_getElem? (i := 513) (by decide +kernel)⟩
theorem lw_p27 : lw_okq (⟨"BarrierDispatchModel", "workersInUse", "()I"⟩, 19) := ⟨⟨by decide +kernel, by decide +kernel⟩, List.mem_of_getElem? (i := 352) (by decide +kernel), List.mem_of_getElem? (i := 516) (by decide +kernel), List.mem_of_getElem? (i := 517) (by decide +kernel)⟩
theorem lw_p28 : lw_okq (⟨"BarrierDispatchModel", "lets", "(II)Z"⟩, 19) := ⟨⟨by decide +kernel, by decide +kernel⟩, List.mem_of_getElem? (i := 352) (by decide +kernel), List.mem_of_getElem? (i := 520) (by decide +kernel), List.mem_of_getElem? (i := 521) (by decide +kernel)⟩
theorem lw_p29 : lw_okq (⟨"BarrierDispatchModel", "barrierRuns", "(I)Z"⟩, 19) := ⟨⟨by decide +kernel, by decide +kernel⟩, List.mem_of_getElem? (i := 352) (by decide +kernel), List.mem_of_getElem? (i := 524) (by decide +kernel), List.mem_of_getElem? (i := 525) (by decide +kernel)⟩
theorem lw_p30 : lw_okq (⟨"BarrierDispatchModel", "root", "(I)I"⟩, 19) := ⟨⟨by decide +kernel, by decide +kernel⟩, List.mem_of_getElem? (i := 352) (by decide +kernel), List.mem_of_getElem? (i := 528) (by decide +kernel), List.mem_of_getElem? (i := 529) (by decide +kernel)⟩
theorem lw_p31 : lw_okq (⟨"BarrierDispatchModel", "end", "(II)V"⟩, 19) := ⟨⟨by decide +kernel, by decide +kernel⟩, List.mem_of_getElem? (i := 352) (by decide +kernel), List.mem_of_getElem? (i := 532) (by decide +kernel), List.mem_of_getElem? (i := 533) (by decide +kernel)⟩
def lw_privs_2 : List (MethodName × Nat) := [(⟨"BarrierDispatchModel", "passing", "(I)I"⟩, 19), (⟨"BarrierDispatchModel", "live", "(I)Z"⟩, 19), (⟨"BarrierDispatchModel", "accept", "(IZ)I"⟩, 19), (⟨"BarrierDispatchModel", "line", "(I)V"⟩, 19), (⟨"BarrierDispatchModel", "isBlock", "(I)Z"⟩, 19), (⟨"BarrierDispatchModel", "inTheWay", "(IIZ)Z"⟩, 19), (⟨"BarrierDispatchModel", "countOf", "(I)I"⟩, 19), (⟨"BarrierDispatchModel", "release", "(I)V"⟩, 19), (⟨"BarrierDispatchModel", "chosen", "()I"⟩, 19), (⟨"BarrierDispatchModel", "mayStart", "(I)Z"⟩, 19), (⟨"BarrierDispatchModel", "oldest", "(I)I"⟩, 19), (⟨"BarrierDispatchModel", "workersInUse", "()I"⟩, 19), (⟨"BarrierDispatchModel", "lets", "(II)Z"⟩, 19), (⟨"BarrierDispatchModel", "barrierRuns", "(I)Z"⟩, 19), (⟨"BarrierDispatchModel", "root", "(I)I"⟩, 19), (⟨"BarrierDispatchModel", "end", "(II)V"⟩, 19)]
theorem lw_r2 : ∀ q ∈ lw_privs_2, lw_okq q := List.forall_mem_cons.mpr ⟨lw_p16, List.forall_mem_cons.mpr ⟨lw_p17, List.forall_mem_cons.mpr ⟨lw_p18, List.forall_mem_cons.mpr ⟨lw_p19, List.forall_mem_cons.mpr ⟨lw_p20, List.forall_mem_cons.mpr ⟨lw_p21, List.forall_mem_cons.mpr ⟨lw_p22, List.forall_mem_cons.mpr ⟨lw_p23, List.forall_mem_cons.mpr ⟨lw_p24, List.forall_mem_cons.mpr ⟨lw_p25, List.forall_mem_cons.mpr ⟨lw_p26, List.forall_mem_cons.mpr ⟨lw_p27, List.forall_mem_cons.mpr ⟨lw_p28, List.forall_mem_cons.mpr ⟨lw_p29, List.forall_mem_cons.mpr ⟨lw_p30, List.forall_mem_cons.mpr ⟨lw_p31, fun _ h => absurd h List.not_mem_nil⟩⟩⟩⟩⟩⟩⟩⟩⟩⟩⟩⟩⟩⟩⟩⟩
theorem lw_p32 : lw_okq (⟨"BarrierDispatchModel", "due", "()I"⟩, 19) := ⟨⟨by decide +kernel, by decide +kernel⟩, List.mem_of_getElem? (i := 352) (by decide +kernel), List.mem_of_getElem? (i := 545) (by decide +kernel), List.mem_of_getElem? (i := 546) (by decide +kernel)⟩
def lw_privs_3 : List (MethodName × Nat) := [(⟨"BarrierDispatchModel", "due", "()I"⟩, 19)]
theorem lw_r3 : ∀ q ∈ lw_privs_3, lw_okq q := List.forall_mem_cons.mpr ⟨lw_p32, fun _ h => absurd h List.not_mem_nil⟩
def lw_privs : List (MethodName × Nat) := lw_privs_1 ++ (lw_privs_2 ++ (lw_privs_3))
def lw_tbl : List Cond := k2_sels lw_privs ++ tables_1
theorem lw_privs_ok : ∀ q ∈ lw_privs, lw_okq q := by
  show ∀ q ∈ lw_privs_1 ++ (lw_privs_2 ++ (lw_privs_3)), lw_okq q
  exact List.forall_mem_append.mpr ⟨lw_r1, List.forall_mem_append.mpr ⟨lw_r2, lw_r3⟩⟩
-- ===== end of PART A; then your names; then what follows =====
end
section
/-! Part 01: names, field tables. Printed by wip/gen/gen_names.py. -/
def rn_B : String := "BarrierDispatch$Block"
def ft_B : u_T := fun k => match k with
  | 0 => ("BarrierDispatch$Block", "ticket", "I", true)
  | 1 => ("BarrierDispatch$Block", "home", "LBarrierDispatch$Queue;", true)
  | 2 => ("BarrierDispatch$Block", "barrier", "Z", true)
  | 3 => ("BarrierDispatch$Block", "state", "I", false)
  | 4 => ("BarrierDispatch$Block", "cancelled", "Z", false)
  | 5 => ("BarrierDispatch$Block", "caller", "LBarrierDispatch$Block;", false)
  | 6 => ("BarrierDispatch$Block", "memberOf", "LBarrierDispatch$Group;", false)
  | 7 => ("BarrierDispatch$Block", "heldFor", "LBarrierDispatch$Group;", false)
  | 8 => ("BarrierDispatch$Block", "deadline", "J", false)
  | 9 => ("BarrierDispatch$Block", "age", "I", false)
  | _ => ("BarrierDispatch$Block", "younger", "LBarrierDispatch$Block;", false)
def fy_B : Nat → FieldType := fun k => match k with
  | 0 => .int
  | 1 => .object "BarrierDispatch$Queue"
  | 2 => .boolean
  | 3 => .int
  | 4 => .boolean
  | 5 => .object "BarrierDispatch$Block"
  | 6 => .object "BarrierDispatch$Group"
  | 7 => .object "BarrierDispatch$Group"
  | 8 => .long
  | 9 => .int
  | _ => .object "BarrierDispatch$Block"
theorem fn_B : ∀ a, a < 11 → ∀ b, b < 11 → a ≠ b → (ft_B a).2.1 ≠ (ft_B b).2.1 := by decide +kernel
theorem fo_B : ∀ k, k < 11 → parseFieldDescriptor (ft_B k).2.2.1 = some (fy_B k) := by decide +kernel
def rn_G : String := "BarrierDispatch$Group"
def ft_G : u_T := fun k => match k with
  | 0 => ("BarrierDispatch$Group", "entries", "I", false)
  | _ => ("BarrierDispatch$Group", "openMembers", "I", false)
def fy_G : Nat → FieldType := fun k => match k with
  | 0 => .int
  | _ => .int
theorem fn_G : ∀ a, a < 2 → ∀ b, b < 2 → a ≠ b → (ft_G a).2.1 ≠ (ft_G b).2.1 := by decide +kernel
theorem fo_G : ∀ k, k < 2 → parseFieldDescriptor (ft_G k).2.2.1 = some (fy_G k) := by decide +kernel
def rn_Q : String := "BarrierDispatch$Queue"
def ft_Q : u_T := fun k => match k with
  | 0 => ("BarrierDispatch$Queue", "number", "I", true)
  | 1 => ("BarrierDispatch$Queue", "width", "I", true)
  | 2 => ("BarrierDispatch$Queue", "target", "LBarrierDispatch$Queue;", false)
  | 3 => ("BarrierDispatch$Queue", "holds", "I", false)
  | 4 => ("BarrierDispatch$Queue", "first", "LBarrierDispatch$Block;", false)
  | 5 => ("BarrierDispatch$Queue", "last", "LBarrierDispatch$Block;", false)
  | 6 => ("BarrierDispatch$Queue", "lineLength", "I", false)
  | 7 => ("BarrierDispatch$Queue", "liveBlocks", "I", false)
  | 8 => ("BarrierDispatch$Queue", "mostLive", "I", false)
  | _ => ("BarrierDispatch$Queue", "barrierIsLive", "Z", false)
def fy_Q : Nat → FieldType := fun k => match k with
  | 0 => .int
  | 1 => .int
  | 2 => .object "BarrierDispatch$Queue"
  | 3 => .int
  | 4 => .object "BarrierDispatch$Block"
  | 5 => .object "BarrierDispatch$Block"
  | 6 => .int
  | 7 => .int
  | 8 => .int
  | _ => .boolean
theorem fn_Q : ∀ a, a < 10 → ∀ b, b < 10 → a ≠ b → (ft_Q a).2.1 ≠ (ft_Q b).2.1 := by decide +kernel
theorem fo_Q : ∀ k, k < 10 → parseFieldDescriptor (ft_Q k).2.2.1 = some (fy_Q k) := by decide +kernel
def rn_D : String := "BarrierDispatch"
def ft_D : u_T := fun k => match k with
  | 0 => ("BarrierDispatch", "workers", "I", true)
  | 1 => ("BarrierDispatch", "queues", "[LBarrierDispatch$Queue;", true)
  | 2 => ("BarrierDispatch", "blocks", "[LBarrierDispatch$Block;", true)
  | 3 => ("BarrierDispatch", "groups", "[LBarrierDispatch$Group;", true)
  | 4 => ("BarrierDispatch", "queueCount", "I", false)
  | 5 => ("BarrierDispatch", "blockCount", "I", false)
  | 6 => ("BarrierDispatch", "busyWorkers", "I", false)
  | 7 => ("BarrierDispatch", "nextAge", "I", false)
  | _ => ("BarrierDispatch", "clock", "J", false)
def fy_D : Nat → FieldType := fun k => match k with
  | 0 => .int
  | 1 => .array (.object "BarrierDispatch$Queue")
  | 2 => .array (.object "BarrierDispatch$Block")
  | 3 => .array (.object "BarrierDispatch$Group")
  | 4 => .int
  | 5 => .int
  | 6 => .int
  | 7 => .int
  | _ => .long
theorem fn_D : ∀ a, a < 9 → ∀ b, b < 9 → a ≠ b → (ft_D a).2.1 ≠ (ft_D b).2.1 := by decide +kernel
theorem fo_D : ∀ k, k < 9 → parseFieldDescriptor (ft_D k).2.2.1 = some (fy_D k) := by decide +kernel
def rn_M : String := "BarrierDispatchModel"
def ft_M : u_T := fun k => match k with
  | 0 => ("BarrierDispatchModel", "pool", "I", false)
  | 1 => ("BarrierDispatchModel", "queues", "I", false)
  | 2 => ("BarrierDispatchModel", "target", "[I", false)
  | 3 => ("BarrierDispatchModel", "width", "[I", false)
  | 4 => ("BarrierDispatchModel", "holds", "[I", false)
  | 5 => ("BarrierDispatchModel", "peaks", "[I", false)
  | 6 => ("BarrierDispatchModel", "blocks", "I", false)
  | 7 => ("BarrierDispatchModel", "home", "[I", false)
  | 8 => ("BarrierDispatchModel", "state", "[I", false)
  | 9 => ("BarrierDispatchModel", "caller", "[I", false)
  | 10 => ("BarrierDispatchModel", "member", "[I", false)
  | 11 => ("BarrierDispatchModel", "awaits", "[I", false)
  | 12 => ("BarrierDispatchModel", "stamp", "[I", false)
  | 13 => ("BarrierDispatchModel", "deadline", "[J", false)
  | 14 => ("BarrierDispatchModel", "barrier", "[Z", false)
  | 15 => ("BarrierDispatchModel", "dropped", "[Z", false)
  | 16 => ("BarrierDispatchModel", "stamps", "I", false)
  | 17 => ("BarrierDispatchModel", "entered", "[I", false)
  | _ => ("BarrierDispatchModel", "clock", "J", false)
def fy_M : Nat → FieldType := fun k => match k with
  | 0 => .int
  | 1 => .int
  | 2 => .array (.int)
  | 3 => .array (.int)
  | 4 => .array (.int)
  | 5 => .array (.int)
  | 6 => .int
  | 7 => .array (.int)
  | 8 => .array (.int)
  | 9 => .array (.int)
  | 10 => .array (.int)
  | 11 => .array (.int)
  | 12 => .array (.int)
  | 13 => .array (.long)
  | 14 => .array (.boolean)
  | 15 => .array (.boolean)
  | 16 => .int
  | 17 => .array (.int)
  | _ => .long
theorem fn_M : ∀ a, a < 19 → ∀ b, b < 19 → a ≠ b → (ft_M a).2.1 ≠ (ft_M b).2.1 := by decide +kernel
theorem fo_M : ∀ k, k < 19 → parseFieldDescriptor (ft_M k).2.2.1 = some (fy_M k) := by decide +kernel
def rn_L : String := "BarrierDispatchLaw"
abbrev vw_cl : List vw_C := [(rn_B, ft_B, 11), (rn_G, ft_G, 2), (rn_Q, ft_Q, 10), (rn_D, ft_D, 9), (rn_M, ft_M, 19)]
abbrev cd_D_init : ByteArray := prog_1_method_1_code
def my_D_init : MethodName := ⟨rn_D, "<init>", "(I)V"⟩
abbrev cd_Q_init : ByteArray := prog_4_method_1_code
def my_Q_init : MethodName := ⟨rn_Q, "<init>", "(ILBarrierDispatch$Queue;I)V"⟩
abbrev cd_G_init : ByteArray := prog_3_method_1_code
def my_G_init : MethodName := ⟨rn_G, "<init>", "()V"⟩
abbrev cd_D_queue : ByteArray := prog_1_method_2_code
def my_D_queue : MethodName := ⟨rn_D, "queue", "(II)I"⟩
abbrev cd_D_queueAt : ByteArray := prog_1_method_22_code
def my_D_queueAt : MethodName := ⟨rn_D, "queueAt", "(I)LBarrierDispatch$Queue;"⟩
abbrev cd_D_retarget : ByteArray := prog_1_method_3_code
def my_D_retarget : MethodName := ⟨rn_D, "retarget", "(II)I"⟩
abbrev cd_Q_isRoot : ByteArray := prog_4_method_2_code
def my_Q_isRoot : MethodName := ⟨rn_Q, "isRoot", "()Z"⟩
abbrev cd_Q_leadsTo : ByteArray := prog_4_method_3_code
def my_Q_leadsTo : MethodName := ⟨rn_Q, "leadsTo", "(LBarrierDispatch$Queue;)Z"⟩
abbrev cd_D_submit : ByteArray := prog_1_method_4_code
def my_D_submit : MethodName := ⟨rn_D, "submit", "(IZI)I"⟩
abbrev cd_D_groupAt : ByteArray := prog_1_method_24_code
def my_D_groupAt : MethodName := ⟨rn_D, "groupAt", "(I)LBarrierDispatch$Group;"⟩
abbrev cd_D_isFull : ByteArray := prog_1_method_25_code
def my_D_isFull : MethodName := ⟨rn_D, "isFull", "()Z"⟩
abbrev cd_D_accept : ByteArray := prog_1_method_26_code
def my_D_accept : MethodName := ⟨rn_D, "accept", "(LBarrierDispatch$Queue;Z)LBarrierDispatch$Block;"⟩
abbrev cd_B_init : ByteArray := prog_2_method_1_code
def my_B_init : MethodName := ⟨rn_B, "<init>", "(ILBarrierDispatch$Queue;Z)V"⟩
abbrev cd_D_line : ByteArray := prog_1_method_27_code
def my_D_line : MethodName := ⟨rn_D, "line", "(LBarrierDispatch$Block;)V"⟩
abbrev cd_Q_append : ByteArray := prog_4_method_7_code
def my_Q_append : MethodName := ⟨rn_Q, "append", "(LBarrierDispatch$Block;)V"⟩
abbrev cd_D_after : ByteArray := prog_1_method_5_code
def my_D_after : MethodName := ⟨rn_D, "after", "(IJ)I"⟩
abbrev cd_D_deadlineIn : ByteArray := prog_1_method_28_code
def my_D_deadlineIn : MethodName := ⟨rn_D, "deadlineIn", "(J)J"⟩
abbrev cd_D_call : ByteArray := prog_1_method_6_code
def my_D_call : MethodName := ⟨rn_D, "call", "(IIZ)I"⟩
abbrev cd_D_blockAt : ByteArray := prog_1_method_23_code
def my_D_blockAt : MethodName := ⟨rn_D, "blockAt", "(I)LBarrierDispatch$Block;"⟩
abbrev cd_D_wouldDeadlock : ByteArray := prog_1_method_30_code
def my_D_wouldDeadlock : MethodName := ⟨rn_D, "wouldDeadlock", "(LBarrierDispatch$Block;LBarrierDispatch$Queue;Z)Z"⟩
abbrev cd_D_whenDone : ByteArray := prog_1_method_7_code
def my_D_whenDone : MethodName := ⟨rn_D, "whenDone", "(II)I"⟩
abbrev cd_G_isEmpty : ByteArray := prog_3_method_2_code
def my_G_isEmpty : MethodName := ⟨rn_G, "isEmpty", "()Z"⟩
abbrev cd_D_enter : ByteArray := prog_1_method_8_code
def my_D_enter : MethodName := ⟨rn_D, "enter", "(I)Z"⟩
abbrev cd_D_leave : ByteArray := prog_1_method_9_code
def my_D_leave : MethodName := ⟨rn_D, "leave", "(I)Z"⟩
abbrev cd_D_releaseIfEmpty : ByteArray := prog_1_method_36_code
def my_D_releaseIfEmpty : MethodName := ⟨rn_D, "releaseIfEmpty", "(LBarrierDispatch$Group;)V"⟩
abbrev cd_D_cancel : ByteArray := prog_1_method_10_code
def my_D_cancel : MethodName := ⟨rn_D, "cancel", "(I)Z"⟩
abbrev cd_B_isAhead : ByteArray := prog_2_method_2_code
def my_B_isAhead : MethodName := ⟨rn_B, "isAhead", "()Z"⟩
abbrev cd_D_hold : ByteArray := prog_1_method_11_code
def my_D_hold : MethodName := ⟨rn_D, "hold", "(IZ)I"⟩
abbrev cd_D_begin : ByteArray := prog_1_method_12_code
def my_D_begin : MethodName := ⟨rn_D, "begin", "()I"⟩
abbrev cd_D_choose : ByteArray := prog_1_method_31_code
def my_D_choose : MethodName := ⟨rn_D, "choose", "()LBarrierDispatch$Block;"⟩
abbrev cd_D_mayStart : ByteArray := prog_1_method_32_code
def my_D_mayStart : MethodName := ⟨rn_D, "mayStart", "(LBarrierDispatch$Block;)Z"⟩
abbrev cd_B_isLetIn : ByteArray := prog_2_method_3_code
def my_B_isLetIn : MethodName := ⟨rn_B, "isLetIn", "()Z"⟩
abbrev cd_Q_hasRoom : ByteArray := prog_4_method_5_code
def my_Q_hasRoom : MethodName := ⟨rn_Q, "hasRoom", "()Z"⟩
abbrev cd_Q_isClosed : ByteArray := prog_4_method_6_code
def my_Q_isClosed : MethodName := ⟨rn_Q, "isClosed", "()Z"⟩
abbrev cd_B_goesBefore : ByteArray := prog_2_method_4_code
def my_B_goesBefore : MethodName := ⟨rn_B, "goesBefore", "(LBarrierDispatch$Block;)Z"⟩
abbrev cd_Q_quality : ByteArray := prog_4_method_4_code
def my_Q_quality : MethodName := ⟨rn_Q, "quality", "()I"⟩
abbrev cd_Q_dropFirst : ByteArray := prog_4_method_8_code
def my_Q_dropFirst : MethodName := ⟨rn_Q, "dropFirst", "()V"⟩
abbrev cd_D_start : ByteArray := prog_1_method_33_code
def my_D_start : MethodName := ⟨rn_D, "start", "(LBarrierDispatch$Block;)V"⟩
abbrev cd_D_conclude : ByteArray := prog_1_method_35_code
def my_D_conclude : MethodName := ⟨rn_D, "conclude", "(LBarrierDispatch$Block;I)V"⟩
abbrev cd_D_finish : ByteArray := prog_1_method_13_code
def my_D_finish : MethodName := ⟨rn_D, "finish", "(I)Z"⟩
abbrev cd_D_withdraw : ByteArray := prog_1_method_34_code
def my_D_withdraw : MethodName := ⟨rn_D, "withdraw", "(LBarrierDispatch$Block;)V"⟩
abbrev cd_D_advance : ByteArray := prog_1_method_14_code
def my_D_advance : MethodName := ⟨rn_D, "advance", "(J)I"⟩
def my_J_minL : MethodName := ⟨"java/lang/Math", "min", "(JJ)J"⟩
abbrev cd_D_nextDue : ByteArray := prog_1_method_29_code
def my_D_nextDue : MethodName := ⟨rn_D, "nextDue", "()LBarrierDispatch$Block;"⟩
abbrev cd_D_now : ByteArray := prog_1_method_15_code
def my_D_now : MethodName := ⟨rn_D, "now", "()J"⟩
abbrev cd_D_state : ByteArray := prog_1_method_16_code
def my_D_state : MethodName := ⟨rn_D, "state", "(I)I"⟩
abbrev cd_D_queued : ByteArray := prog_1_method_17_code
def my_D_queued : MethodName := ⟨rn_D, "queued", "(I)I"⟩
abbrev cd_D_through : ByteArray := prog_1_method_18_code
def my_D_through : MethodName := ⟨rn_D, "through", "(I)I"⟩
abbrev cd_D_peak : ByteArray := prog_1_method_19_code
def my_D_peak : MethodName := ⟨rn_D, "peak", "(I)I"⟩
abbrev cd_D_count : ByteArray := prog_1_method_20_code
def my_D_count : MethodName := ⟨rn_D, "count", "(I)I"⟩
abbrev cd_D_ready : ByteArray := prog_1_method_21_code
def my_D_ready : MethodName := ⟨rn_D, "ready", "()I"⟩
abbrev cd_L_cell : ByteArray := method_2_code
def my_L_cell : MethodName := ⟨rn_L, "cell", "([II)I"⟩
abbrev cd_M_init : ByteArray := prog_6_method_1_code
def my_M_init : MethodName := ⟨rn_M, "<init>", "(I)V"⟩
abbrev cd_M_queue : ByteArray := prog_6_method_18_code
def my_M_queue : MethodName := ⟨rn_M, "queue", "(II)I"⟩
abbrev cd_M_isQueue : ByteArray := prog_6_method_2_code
def my_M_isQueue : MethodName := ⟨rn_M, "isQueue", "(I)Z"⟩
abbrev cd_M_retarget : ByteArray := prog_6_method_19_code
def my_M_retarget : MethodName := ⟨rn_M, "retarget", "(II)I"⟩
abbrev cd_M_leads : ByteArray := prog_6_method_4_code
def my_M_leads : MethodName := ⟨rn_M, "leads", "(II)Z"⟩
abbrev cd_M_passing : ByteArray := prog_6_method_7_code
def my_M_passing : MethodName := ⟨rn_M, "passing", "(I)I"⟩
abbrev cd_M_live : ByteArray := prog_6_method_6_code
def my_M_live : MethodName := ⟨rn_M, "live", "(I)Z"⟩
abbrev cd_M_submit : ByteArray := prog_6_method_20_code
def my_M_submit : MethodName := ⟨rn_M, "submit", "(IZI)I"⟩
abbrev cd_M_accept : ByteArray := prog_6_method_14_code
def my_M_accept : MethodName := ⟨rn_M, "accept", "(IZ)I"⟩
abbrev cd_M_line : ByteArray := prog_6_method_15_code
def my_M_line : MethodName := ⟨rn_M, "line", "(I)V"⟩
abbrev cd_M_after : ByteArray := prog_6_method_21_code
def my_M_after : MethodName := ⟨rn_M, "after", "(IJ)I"⟩
abbrev cd_M_call : ByteArray := prog_6_method_23_code
def my_M_call : MethodName := ⟨rn_M, "call", "(IIZ)I"⟩
abbrev cd_M_isBlock : ByteArray := prog_6_method_3_code
def my_M_isBlock : MethodName := ⟨rn_M, "isBlock", "(I)Z"⟩
abbrev cd_M_inTheWay : ByteArray := prog_6_method_22_code
def my_M_inTheWay : MethodName := ⟨rn_M, "inTheWay", "(IIZ)Z"⟩
abbrev cd_M_whenDone : ByteArray := prog_6_method_24_code
def my_M_whenDone : MethodName := ⟨rn_M, "whenDone", "(II)I"⟩
abbrev cd_M_countOf : ByteArray := prog_6_method_13_code
def my_M_countOf : MethodName := ⟨rn_M, "countOf", "(I)I"⟩
abbrev cd_M_enter : ByteArray := prog_6_method_25_code
def my_M_enter : MethodName := ⟨rn_M, "enter", "(I)Z"⟩
abbrev cd_M_leave : ByteArray := prog_6_method_26_code
def my_M_leave : MethodName := ⟨rn_M, "leave", "(I)Z"⟩
abbrev cd_M_release : ByteArray := prog_6_method_16_code
def my_M_release : MethodName := ⟨rn_M, "release", "(I)V"⟩
abbrev cd_M_cancel : ByteArray := prog_6_method_27_code
def my_M_cancel : MethodName := ⟨rn_M, "cancel", "(I)Z"⟩
abbrev cd_M_hold : ByteArray := prog_6_method_28_code
def my_M_hold : MethodName := ⟨rn_M, "hold", "(IZ)I"⟩
abbrev cd_M_begin : ByteArray := prog_6_method_30_code
def my_M_begin : MethodName := ⟨rn_M, "begin", "()I"⟩
abbrev cd_M_chosen : ByteArray := prog_6_method_29_code
def my_M_chosen : MethodName := ⟨rn_M, "chosen", "()I"⟩
abbrev cd_M_mayStart : ByteArray := prog_6_method_12_code
def my_M_mayStart : MethodName := ⟨rn_M, "mayStart", "(I)Z"⟩
abbrev cd_M_oldest : ByteArray := prog_6_method_9_code
def my_M_oldest : MethodName := ⟨rn_M, "oldest", "(I)I"⟩
abbrev cd_M_workersInUse : ByteArray := prog_6_method_8_code
def my_M_workersInUse : MethodName := ⟨rn_M, "workersInUse", "()I"⟩
abbrev cd_M_lets : ByteArray := prog_6_method_11_code
def my_M_lets : MethodName := ⟨rn_M, "lets", "(II)Z"⟩
abbrev cd_M_barrierRuns : ByteArray := prog_6_method_10_code
def my_M_barrierRuns : MethodName := ⟨rn_M, "barrierRuns", "(I)Z"⟩
abbrev cd_M_root : ByteArray := prog_6_method_5_code
def my_M_root : MethodName := ⟨rn_M, "root", "(I)I"⟩
abbrev cd_M_end : ByteArray := prog_6_method_17_code
def my_M_end : MethodName := ⟨rn_M, "end", "(II)V"⟩
abbrev cd_M_finish : ByteArray := prog_6_method_31_code
def my_M_finish : MethodName := ⟨rn_M, "finish", "(I)Z"⟩
abbrev cd_M_advance : ByteArray := prog_6_method_32_code
def my_M_advance : MethodName := ⟨rn_M, "advance", "(J)I"⟩
abbrev cd_M_due : ByteArray := prog_6_method_33_code
def my_M_due : MethodName := ⟨rn_M, "due", "()I"⟩
abbrev cd_M_now : ByteArray := prog_6_method_34_code
def my_M_now : MethodName := ⟨rn_M, "now", "()J"⟩
abbrev cd_M_state : ByteArray := prog_6_method_35_code
def my_M_state : MethodName := ⟨rn_M, "state", "(I)I"⟩
abbrev cd_M_queued : ByteArray := prog_6_method_36_code
def my_M_queued : MethodName := ⟨rn_M, "queued", "(I)I"⟩
abbrev cd_M_through : ByteArray := prog_6_method_37_code
def my_M_through : MethodName := ⟨rn_M, "through", "(I)I"⟩
abbrev cd_M_peak : ByteArray := prog_6_method_38_code
def my_M_peak : MethodName := ⟨rn_M, "peak", "(I)I"⟩
abbrev cd_M_count : ByteArray := prog_6_method_39_code
def my_M_count : MethodName := ⟨rn_M, "count", "(I)I"⟩
abbrev cd_M_ready : ByteArray := prog_6_method_40_code
def my_M_ready : MethodName := ⟨rn_M, "ready", "()I"⟩
/-- the words of the tables that a method may hand on to another -/
def bg_tbl : List Cond := lw_tbl.filter goodWord
theorem bg_in {w : Cond} (h : w ∈ lw_tbl) (hg : goodWord w = true) : w ∈ bg_tbl := List.mem_filter.mpr ⟨h, hg⟩
theorem bg_t {w : Cond} {i : Nat} (h : tables_1[i]? = some w) (hg : goodWord w = true) : w ∈ bg_tbl := bg_in (List.mem_append_right _ (List.mem_of_getElem? h)) hg
theorem bg_s {y : MethodName} {C : String} {n i : Nat} (h : lw_privs[i]? = some (y, n)) (hC : y.cls = C) : Cond.selects C y y ∈ bg_tbl := by
  subst hC
  exact bg_in (List.mem_append_left _ (List.mem_map.mpr ⟨(y, n), List.mem_of_getElem? h, rfl⟩)) rfl
theorem tw_in_L : Cond.initialized rn_L ∈ bg_tbl := bg_t (i := 0) (by decide +kernel) rfl
theorem tw_in_D : Cond.initialized rn_D ∈ bg_tbl := bg_t (i := 1) (by decide +kernel) rfl
theorem tw_in_J : Cond.initialized "java/lang/Math" ∈ bg_tbl := bg_t (i := 2) (by decide +kernel) rfl
theorem tw_in_Q : Cond.initialized rn_Q ∈ bg_tbl := bg_t (i := 3) (by decide +kernel) rfl
theorem tw_in_G : Cond.initialized rn_G ∈ bg_tbl := bg_t (i := 4) (by decide +kernel) rfl
theorem tw_in_M : Cond.initialized rn_M ∈ bg_tbl := bg_t (i := 5) (by decide +kernel) rfl
theorem tw_in_B : Cond.initialized rn_B ∈ bg_tbl := bg_t (i := 6) (by decide +kernel) rfl
theorem tw_cl_L_7 : Cond.classLink rn_L 7 rn_D ∈ bg_tbl := bg_t (i := 7) (by decide +kernel) rfl
theorem tw_is_D : Cond.instantiable rn_D 9 ∈ bg_tbl := bg_t (i := 8) (by decide +kernel) rfl
theorem tw_ml_L_15 : Cond.methodLink rn_L 15 my_D_init ∈ bg_tbl := bg_t (i := 9) (by decide +kernel) rfl
theorem tw_im_D_init : Cond.instanceMethod my_D_init ∈ bg_tbl := bg_t (i := 10) (by decide +kernel) rfl
theorem tw_co_D_init : Cond.code my_D_init cd_D_init 3 none ∈ bg_tbl := bg_t (i := 11) (by decide +kernel) rfl
theorem tw_ml_D_1 : Cond.methodLink rn_D 1 objectInit ∈ bg_tbl := bg_t (i := 12) (by decide +kernel) rfl
theorem tw_im_O_init : Cond.instanceMethod objectInit ∈ bg_tbl := bg_t (i := 13) (by decide +kernel) rfl
theorem tw_co_O_init : Cond.code objectInit ⟨#[0xb1]⟩ 1 none ∈ bg_tbl := bg_t (i := 14) (by decide +kernel) rfl
theorem tw_ml_D_9 : Cond.methodLink rn_D 9 Lib.Math.min.name ∈ bg_tbl := bg_t (i := 15) (by decide +kernel) rfl
theorem tw_st_J_min : Cond.static Lib.Math.min.name ∈ bg_tbl := bg_t (i := 16) (by decide +kernel) rfl
theorem tw_co_J_min : Cond.code Lib.Math.min.name Lib.Math.min.code 2 (some .int) ∈ bg_tbl := bg_t (i := 17) (by decide +kernel) rfl
theorem tw_ml_D_15 : Cond.methodLink rn_D 15 Lib.Math.max.name ∈ bg_tbl := bg_t (i := 18) (by decide +kernel) rfl
theorem tw_st_J_max : Cond.static Lib.Math.max.name ∈ bg_tbl := bg_t (i := 19) (by decide +kernel) rfl
theorem tw_co_J_max : Cond.code Lib.Math.max.name Lib.Math.max.code 2 (some .int) ∈ bg_tbl := bg_t (i := 20) (by decide +kernel) rfl
theorem tw_cl_D_22 : Cond.classLink rn_D 22 rn_Q ∈ bg_tbl := bg_t (i := 21) (by decide +kernel) rfl
theorem tw_ao_Q : Cond.arrayOver (.object rn_Q) ∈ lw_tbl := List.mem_append_right _ (List.mem_of_getElem? (i := 22) (by decide +kernel))
theorem tw_cl_D_28 : Cond.classLink rn_D 28 rn_B ∈ bg_tbl := bg_t (i := 23) (by decide +kernel) rfl
theorem tw_ao_B : Cond.arrayOver (.object rn_B) ∈ lw_tbl := List.mem_append_right _ (List.mem_of_getElem? (i := 24) (by decide +kernel))
theorem tw_cl_D_34 : Cond.classLink rn_D 34 rn_G ∈ bg_tbl := bg_t (i := 25) (by decide +kernel) rfl
theorem tw_ao_G : Cond.arrayOver (.object rn_G) ∈ lw_tbl := List.mem_append_right _ (List.mem_of_getElem? (i := 26) (by decide +kernel))
theorem tw_is_Q : Cond.instantiable rn_Q 10 ∈ bg_tbl := bg_t (i := 27) (by decide +kernel) rfl
theorem tw_ml_D_40 : Cond.methodLink rn_D 40 my_Q_init ∈ bg_tbl := bg_t (i := 28) (by decide +kernel) rfl
theorem tw_im_Q_init : Cond.instanceMethod my_Q_init ∈ bg_tbl := bg_t (i := 29) (by decide +kernel) rfl
theorem tw_co_Q_init : Cond.code my_Q_init cd_Q_init 4 none ∈ bg_tbl := bg_t (i := 30) (by decide +kernel) rfl
theorem tw_ml_Q_1 : Cond.methodLink rn_Q 1 objectInit ∈ bg_tbl := bg_t (i := 31) (by decide +kernel) rfl
theorem tw_fl_Q_7 : Cond.fieldLink rn_Q 7 rn_Q (ft_Q 0).2.1 (ft_Q 0).2.2.1 ∈ bg_tbl := bg_t (i := 32) (by decide +kernel) rfl
theorem tw_fl_Q_17 : Cond.fieldLink rn_Q 17 rn_Q (ft_Q 1).2.1 (ft_Q 1).2.2.1 ∈ bg_tbl := bg_t (i := 33) (by decide +kernel) rfl
theorem tw_fl_D_198 : Cond.fieldLink rn_D 198 rn_Q (ft_Q 1).2.1 (ft_Q 1).2.2.1 ∈ bg_tbl := bg_t (i := 34) (by decide +kernel) rfl
theorem tw_fl_Q_13 : Cond.fieldLink rn_Q 13 rn_Q (ft_Q 2).2.1 (ft_Q 2).2.2.1 ∈ bg_tbl := bg_t (i := 35) (by decide +kernel) rfl
theorem tw_fl_D_62 : Cond.fieldLink rn_D 62 rn_Q (ft_Q 2).2.1 (ft_Q 2).2.2.1 ∈ bg_tbl := bg_t (i := 36) (by decide +kernel) rfl
theorem tw_fl_B_44 : Cond.fieldLink rn_B 44 rn_Q (ft_Q 2).2.1 (ft_Q 2).2.2.1 ∈ bg_tbl := bg_t (i := 37) (by decide +kernel) rfl
theorem tw_fl_B_31 : Cond.fieldLink rn_B 31 rn_Q (ft_Q 3).2.1 (ft_Q 3).2.2.1 ∈ bg_tbl := bg_t (i := 38) (by decide +kernel) rfl
theorem tw_fl_D_134 : Cond.fieldLink rn_D 134 rn_Q (ft_Q 3).2.1 (ft_Q 3).2.2.1 ∈ bg_tbl := bg_t (i := 39) (by decide +kernel) rfl
theorem tw_fl_Q_27 : Cond.fieldLink rn_Q 27 rn_Q (ft_Q 4).2.1 (ft_Q 4).2.2.1 ∈ bg_tbl := bg_t (i := 40) (by decide +kernel) rfl
theorem tw_fl_D_174 : Cond.fieldLink rn_D 174 rn_Q (ft_Q 4).2.1 (ft_Q 4).2.2.1 ∈ bg_tbl := bg_t (i := 41) (by decide +kernel) rfl
theorem tw_fl_Q_37 : Cond.fieldLink rn_Q 37 rn_Q (ft_Q 5).2.1 (ft_Q 5).2.2.1 ∈ bg_tbl := bg_t (i := 42) (by decide +kernel) rfl
theorem tw_fl_Q_43 : Cond.fieldLink rn_Q 43 rn_Q (ft_Q 6).2.1 (ft_Q 6).2.2.1 ∈ bg_tbl := bg_t (i := 43) (by decide +kernel) rfl
theorem tw_fl_D_168 : Cond.fieldLink rn_D 168 rn_Q (ft_Q 6).2.1 (ft_Q 6).2.2.1 ∈ bg_tbl := bg_t (i := 44) (by decide +kernel) rfl
theorem tw_fl_B_26 : Cond.fieldLink rn_B 26 rn_Q (ft_Q 7).2.1 (ft_Q 7).2.2.1 ∈ bg_tbl := bg_t (i := 45) (by decide +kernel) rfl
theorem tw_fl_D_59 : Cond.fieldLink rn_D 59 rn_Q (ft_Q 7).2.1 (ft_Q 7).2.2.1 ∈ bg_tbl := bg_t (i := 46) (by decide +kernel) rfl
theorem tw_fl_Q_24 : Cond.fieldLink rn_Q 24 rn_Q (ft_Q 7).2.1 (ft_Q 7).2.2.1 ∈ bg_tbl := bg_t (i := 47) (by decide +kernel) rfl
theorem tw_fl_D_171 : Cond.fieldLink rn_D 171 rn_Q (ft_Q 8).2.1 (ft_Q 8).2.2.1 ∈ bg_tbl := bg_t (i := 48) (by decide +kernel) rfl
theorem tw_fl_B_38 : Cond.fieldLink rn_B 38 rn_Q (ft_Q 9).2.1 (ft_Q 9).2.2.1 ∈ bg_tbl := bg_t (i := 49) (by decide +kernel) rfl
theorem tw_fl_D_213 : Cond.fieldLink rn_D 213 rn_Q (ft_Q 9).2.1 (ft_Q 9).2.2.1 ∈ bg_tbl := bg_t (i := 50) (by decide +kernel) rfl
theorem tw_is_G : Cond.instantiable rn_G 2 ∈ bg_tbl := bg_t (i := 72) (by decide +kernel) rfl
theorem tw_mn_D_46 : Cond.methodLinkNest rn_D 46 my_G_init rn_D ∈ lw_tbl := List.mem_append_right _ (List.mem_of_getElem? (i := 73) (by decide +kernel))
theorem tw_im_G_init : Cond.instanceMethod my_G_init ∈ bg_tbl := bg_t (i := 74) (by decide +kernel) rfl
theorem tw_co_G_init : Cond.code my_G_init cd_G_init 1 none ∈ bg_tbl := bg_t (i := 75) (by decide +kernel) rfl
theorem tw_ml_G_1 : Cond.methodLink rn_G 1 objectInit ∈ bg_tbl := bg_t (i := 76) (by decide +kernel) rfl
theorem tw_fl_G_7 : Cond.fieldLink rn_G 7 rn_G (ft_G 0).2.1 (ft_G 0).2.2.1 ∈ bg_tbl := bg_t (i := 77) (by decide +kernel) rfl
theorem tw_fl_D_120 : Cond.fieldLink rn_D 120 rn_G (ft_G 0).2.1 (ft_G 0).2.2.1 ∈ bg_tbl := bg_t (i := 78) (by decide +kernel) rfl
theorem tw_fl_G_13 : Cond.fieldLink rn_G 13 rn_G (ft_G 1).2.1 (ft_G 1).2.2.1 ∈ bg_tbl := bg_t (i := 79) (by decide +kernel) rfl
theorem tw_fl_D_81 : Cond.fieldLink rn_D 81 rn_G (ft_G 1).2.1 (ft_G 1).2.2.1 ∈ bg_tbl := bg_t (i := 80) (by decide +kernel) rfl
theorem tw_fl_D_18 : Cond.fieldLink rn_D 18 rn_D (ft_D 0).2.1 (ft_D 0).2.2.1 ∈ bg_tbl := bg_t (i := 86) (by decide +kernel) rfl
theorem tw_fl_D_24 : Cond.fieldLink rn_D 24 rn_D (ft_D 1).2.1 (ft_D 1).2.2.1 ∈ bg_tbl := bg_t (i := 87) (by decide +kernel) rfl
theorem tw_fl_D_30 : Cond.fieldLink rn_D 30 rn_D (ft_D 2).2.1 (ft_D 2).2.2.1 ∈ bg_tbl := bg_t (i := 88) (by decide +kernel) rfl
theorem tw_fl_D_36 : Cond.fieldLink rn_D 36 rn_D (ft_D 3).2.1 (ft_D 3).2.2.1 ∈ bg_tbl := bg_t (i := 89) (by decide +kernel) rfl
theorem tw_fl_D_43 : Cond.fieldLink rn_D 43 rn_D (ft_D 4).2.1 (ft_D 4).2.2.1 ∈ bg_tbl := bg_t (i := 90) (by decide +kernel) rfl
theorem tw_fl_D_181 : Cond.fieldLink rn_D 181 rn_D (ft_D 5).2.1 (ft_D 5).2.2.1 ∈ bg_tbl := bg_t (i := 91) (by decide +kernel) rfl
theorem tw_fl_D_210 : Cond.fieldLink rn_D 210 rn_D (ft_D 6).2.1 (ft_D 6).2.2.1 ∈ bg_tbl := bg_t (i := 92) (by decide +kernel) rfl
theorem tw_fl_D_187 : Cond.fieldLink rn_D 187 rn_D (ft_D 7).2.1 (ft_D 7).2.2.1 ∈ bg_tbl := bg_t (i := 93) (by decide +kernel) rfl
theorem tw_fl_D_159 : Cond.fieldLink rn_D 159 rn_D (ft_D 8).2.1 (ft_D 8).2.2.1 ∈ bg_tbl := bg_t (i := 94) (by decide +kernel) rfl
theorem tw_ml_L_21 : Cond.methodLink rn_L 21 my_D_queue ∈ bg_tbl := bg_t (i := 114) (by decide +kernel) rfl
theorem tw_im_D_queue : Cond.instanceMethod my_D_queue ∈ bg_tbl := bg_t (i := 115) (by decide +kernel) rfl
theorem tw_se_D_queue : Cond.selects rn_D my_D_queue my_D_queue ∈ bg_tbl := bg_t (i := 116) (by decide +kernel) rfl
theorem tw_co_D_queue : Cond.code my_D_queue cd_D_queue 5 (some .int) ∈ bg_tbl := bg_t (i := 117) (by decide +kernel) rfl
theorem tw_ml_D_47 : Cond.methodLink rn_D 47 my_D_queueAt ∈ bg_tbl := bg_t (i := 118) (by decide +kernel) rfl
theorem tw_im_D_queueAt : Cond.instanceMethod my_D_queueAt ∈ bg_tbl := bg_t (i := 120) (by decide +kernel) rfl
theorem tw_co_D_queueAt : Cond.code my_D_queueAt cd_D_queueAt 2 (some (.object "BarrierDispatch$Queue")) ∈ bg_tbl := bg_t (i := 121) (by decide +kernel) rfl
theorem tw_ml_L_26 : Cond.methodLink rn_L 26 my_D_retarget ∈ bg_tbl := bg_t (i := 122) (by decide +kernel) rfl
theorem tw_im_D_retarget : Cond.instanceMethod my_D_retarget ∈ bg_tbl := bg_t (i := 123) (by decide +kernel) rfl
theorem tw_se_D_retarget : Cond.selects rn_D my_D_retarget my_D_retarget ∈ bg_tbl := bg_t (i := 124) (by decide +kernel) rfl
theorem tw_co_D_retarget : Cond.code my_D_retarget cd_D_retarget 5 (some .int) ∈ bg_tbl := bg_t (i := 125) (by decide +kernel) rfl
theorem tw_ml_D_51 : Cond.methodLink rn_D 51 my_Q_isRoot ∈ bg_tbl := bg_t (i := 126) (by decide +kernel) rfl
theorem tw_im_Q_isRoot : Cond.instanceMethod my_Q_isRoot ∈ bg_tbl := bg_t (i := 127) (by decide +kernel) rfl
theorem tw_se_Q_isRoot : Cond.selects rn_Q my_Q_isRoot my_Q_isRoot ∈ bg_tbl := bg_t (i := 128) (by decide +kernel) rfl
theorem tw_co_Q_isRoot : Cond.code my_Q_isRoot cd_Q_isRoot 1 (some .boolean) ∈ bg_tbl := bg_t (i := 129) (by decide +kernel) rfl
theorem tw_ml_D_55 : Cond.methodLink rn_D 55 my_Q_leadsTo ∈ bg_tbl := bg_t (i := 130) (by decide +kernel) rfl
theorem tw_im_Q_leadsTo : Cond.instanceMethod my_Q_leadsTo ∈ bg_tbl := bg_t (i := 131) (by decide +kernel) rfl
theorem tw_se_Q_leadsTo : Cond.selects rn_Q my_Q_leadsTo my_Q_leadsTo ∈ bg_tbl := bg_t (i := 132) (by decide +kernel) rfl
theorem tw_co_Q_leadsTo : Cond.code my_Q_leadsTo cd_Q_leadsTo 3 (some .boolean) ∈ bg_tbl := bg_t (i := 133) (by decide +kernel) rfl
theorem tw_ml_L_30 : Cond.methodLink rn_L 30 my_D_submit ∈ bg_tbl := bg_t (i := 134) (by decide +kernel) rfl
theorem tw_im_D_submit : Cond.instanceMethod my_D_submit ∈ bg_tbl := bg_t (i := 135) (by decide +kernel) rfl
theorem tw_se_D_submit : Cond.selects rn_D my_D_submit my_D_submit ∈ bg_tbl := bg_t (i := 136) (by decide +kernel) rfl
theorem tw_co_D_submit : Cond.code my_D_submit cd_D_submit 7 (some .int) ∈ bg_tbl := bg_t (i := 137) (by decide +kernel) rfl
theorem tw_ml_D_66 : Cond.methodLink rn_D 66 my_D_groupAt ∈ bg_tbl := bg_t (i := 138) (by decide +kernel) rfl
theorem tw_im_D_groupAt : Cond.instanceMethod my_D_groupAt ∈ bg_tbl := bg_t (i := 140) (by decide +kernel) rfl
theorem tw_co_D_groupAt : Cond.code my_D_groupAt cd_D_groupAt 2 (some (.object "BarrierDispatch$Group")) ∈ bg_tbl := bg_t (i := 141) (by decide +kernel) rfl
theorem tw_ml_D_70 : Cond.methodLink rn_D 70 my_D_isFull ∈ bg_tbl := bg_t (i := 142) (by decide +kernel) rfl
theorem tw_im_D_isFull : Cond.instanceMethod my_D_isFull ∈ bg_tbl := bg_t (i := 144) (by decide +kernel) rfl
theorem tw_co_D_isFull : Cond.code my_D_isFull cd_D_isFull 1 (some .boolean) ∈ bg_tbl := bg_t (i := 145) (by decide +kernel) rfl
theorem tw_ml_D_73 : Cond.methodLink rn_D 73 my_D_accept ∈ bg_tbl := bg_t (i := 146) (by decide +kernel) rfl
theorem tw_im_D_accept : Cond.instanceMethod my_D_accept ∈ bg_tbl := bg_t (i := 148) (by decide +kernel) rfl
theorem tw_co_D_accept : Cond.code my_D_accept cd_D_accept 4 (some (.object "BarrierDispatch$Block")) ∈ bg_tbl := bg_t (i := 149) (by decide +kernel) rfl
theorem tw_is_B : Cond.instantiable rn_B 11 ∈ bg_tbl := bg_t (i := 150) (by decide +kernel) rfl
theorem tw_ml_D_184 : Cond.methodLink rn_D 184 my_B_init ∈ bg_tbl := bg_t (i := 151) (by decide +kernel) rfl
theorem tw_im_B_init : Cond.instanceMethod my_B_init ∈ bg_tbl := bg_t (i := 152) (by decide +kernel) rfl
theorem tw_co_B_init : Cond.code my_B_init cd_B_init 4 none ∈ bg_tbl := bg_t (i := 153) (by decide +kernel) rfl
theorem tw_ml_B_3 : Cond.methodLink rn_B 3 objectInit ∈ bg_tbl := bg_t (i := 154) (by decide +kernel) rfl
theorem tw_fl_B_9 : Cond.fieldLink rn_B 9 rn_B (ft_B 0).2.1 (ft_B 0).2.2.1 ∈ bg_tbl := bg_t (i := 155) (by decide +kernel) rfl
theorem tw_fl_D_88 : Cond.fieldLink rn_D 88 rn_B (ft_B 0).2.1 (ft_B 0).2.2.1 ∈ bg_tbl := bg_t (i := 156) (by decide +kernel) rfl
theorem tw_fl_B_15 : Cond.fieldLink rn_B 15 rn_B (ft_B 1).2.1 (ft_B 1).2.2.1 ∈ bg_tbl := bg_t (i := 157) (by decide +kernel) rfl
theorem tw_fl_D_141 : Cond.fieldLink rn_D 141 rn_B (ft_B 1).2.1 (ft_B 1).2.2.1 ∈ bg_tbl := bg_t (i := 158) (by decide +kernel) rfl
theorem tw_fl_B_19 : Cond.fieldLink rn_B 19 rn_B (ft_B 2).2.1 (ft_B 2).2.2.1 ∈ bg_tbl := bg_t (i := 159) (by decide +kernel) rfl
theorem tw_fl_Q_31 : Cond.fieldLink rn_Q 31 rn_B (ft_B 2).2.1 (ft_B 2).2.2.1 ∈ bg_tbl := bg_t (i := 160) (by decide +kernel) rfl
theorem tw_fl_D_201 : Cond.fieldLink rn_D 201 rn_B (ft_B 2).2.1 (ft_B 2).2.2.1 ∈ bg_tbl := bg_t (i := 161) (by decide +kernel) rfl
theorem tw_fl_B_23 : Cond.fieldLink rn_B 23 rn_B (ft_B 3).2.1 (ft_B 3).2.2.1 ∈ bg_tbl := bg_t (i := 162) (by decide +kernel) rfl
theorem tw_fl_D_91 : Cond.fieldLink rn_D 91 rn_B (ft_B 3).2.1 (ft_B 3).2.2.1 ∈ bg_tbl := bg_t (i := 163) (by decide +kernel) rfl
theorem tw_fl_D_127 : Cond.fieldLink rn_D 127 rn_B (ft_B 4).2.1 (ft_B 4).2.2.1 ∈ bg_tbl := bg_t (i := 164) (by decide +kernel) rfl
theorem tw_fl_D_110 : Cond.fieldLink rn_D 110 rn_B (ft_B 5).2.1 (ft_B 5).2.2.1 ∈ bg_tbl := bg_t (i := 165) (by decide +kernel) rfl
theorem tw_fl_D_77 : Cond.fieldLink rn_D 77 rn_B (ft_B 6).2.1 (ft_B 6).2.2.1 ∈ bg_tbl := bg_t (i := 166) (by decide +kernel) rfl
theorem tw_fl_D_117 : Cond.fieldLink rn_D 117 rn_B (ft_B 7).2.1 (ft_B 7).2.2.1 ∈ bg_tbl := bg_t (i := 167) (by decide +kernel) rfl
theorem tw_fl_D_98 : Cond.fieldLink rn_D 98 rn_B (ft_B 8).2.1 (ft_B 8).2.2.1 ∈ bg_tbl := bg_t (i := 168) (by decide +kernel) rfl
theorem tw_fl_B_51 : Cond.fieldLink rn_B 51 rn_B (ft_B 9).2.1 (ft_B 9).2.2.1 ∈ bg_tbl := bg_t (i := 169) (by decide +kernel) rfl
theorem tw_fl_D_190 : Cond.fieldLink rn_D 190 rn_B (ft_B 9).2.1 (ft_B 9).2.2.1 ∈ bg_tbl := bg_t (i := 170) (by decide +kernel) rfl
theorem tw_fl_Q_40 : Cond.fieldLink rn_Q 40 rn_B (ft_B 10).2.1 (ft_B 10).2.2.1 ∈ bg_tbl := bg_t (i := 171) (by decide +kernel) rfl
theorem tw_ml_D_84 : Cond.methodLink rn_D 84 my_D_line ∈ bg_tbl := bg_t (i := 195) (by decide +kernel) rfl
theorem tw_im_D_line : Cond.instanceMethod my_D_line ∈ bg_tbl := bg_t (i := 197) (by decide +kernel) rfl
theorem tw_co_D_line : Cond.code my_D_line cd_D_line 2 none ∈ bg_tbl := bg_t (i := 198) (by decide +kernel) rfl
theorem tw_ml_D_193 : Cond.methodLink rn_D 193 my_Q_append ∈ bg_tbl := bg_t (i := 199) (by decide +kernel) rfl
theorem tw_im_Q_append : Cond.instanceMethod my_Q_append ∈ bg_tbl := bg_t (i := 200) (by decide +kernel) rfl
theorem tw_se_Q_append : Cond.selects rn_Q my_Q_append my_Q_append ∈ bg_tbl := bg_t (i := 201) (by decide +kernel) rfl
theorem tw_co_Q_append : Cond.code my_Q_append cd_Q_append 2 none ∈ bg_tbl := bg_t (i := 202) (by decide +kernel) rfl
theorem tw_ml_L_37 : Cond.methodLink rn_L 37 my_D_after ∈ bg_tbl := bg_t (i := 203) (by decide +kernel) rfl
theorem tw_im_D_after : Cond.instanceMethod my_D_after ∈ bg_tbl := bg_t (i := 204) (by decide +kernel) rfl
theorem tw_se_D_after : Cond.selects rn_D my_D_after my_D_after ∈ bg_tbl := bg_t (i := 205) (by decide +kernel) rfl
theorem tw_co_D_after : Cond.code my_D_after cd_D_after 6 (some .int) ∈ bg_tbl := bg_t (i := 206) (by decide +kernel) rfl
theorem tw_ml_D_94 : Cond.methodLink rn_D 94 my_D_deadlineIn ∈ bg_tbl := bg_t (i := 207) (by decide +kernel) rfl
theorem tw_im_D_deadlineIn : Cond.instanceMethod my_D_deadlineIn ∈ bg_tbl := bg_t (i := 209) (by decide +kernel) rfl
theorem tw_co_D_deadlineIn : Cond.code my_D_deadlineIn cd_D_deadlineIn 3 (some .long) ∈ bg_tbl := bg_t (i := 210) (by decide +kernel) rfl
theorem tw_k2_D_196 : Cond.constantLong rn_D 196 9223372036854775807 ∈ bg_tbl := bg_t (i := 211) (by decide +kernel) rfl
theorem tw_ml_L_42 : Cond.methodLink rn_L 42 my_D_call ∈ bg_tbl := bg_t (i := 212) (by decide +kernel) rfl
theorem tw_im_D_call : Cond.instanceMethod my_D_call ∈ bg_tbl := bg_t (i := 213) (by decide +kernel) rfl
theorem tw_se_D_call : Cond.selects rn_D my_D_call my_D_call ∈ bg_tbl := bg_t (i := 214) (by decide +kernel) rfl
theorem tw_co_D_call : Cond.code my_D_call cd_D_call 7 (some .int) ∈ bg_tbl := bg_t (i := 215) (by decide +kernel) rfl
theorem tw_ml_D_102 : Cond.methodLink rn_D 102 my_D_blockAt ∈ bg_tbl := bg_t (i := 216) (by decide +kernel) rfl
theorem tw_im_D_blockAt : Cond.instanceMethod my_D_blockAt ∈ bg_tbl := bg_t (i := 218) (by decide +kernel) rfl
theorem tw_co_D_blockAt : Cond.code my_D_blockAt cd_D_blockAt 2 (some (.object "BarrierDispatch$Block")) ∈ bg_tbl := bg_t (i := 219) (by decide +kernel) rfl
theorem tw_ml_D_106 : Cond.methodLink rn_D 106 my_D_wouldDeadlock ∈ bg_tbl := bg_t (i := 220) (by decide +kernel) rfl
theorem tw_st_D_wouldDeadlock : Cond.static my_D_wouldDeadlock ∈ bg_tbl := bg_t (i := 221) (by decide +kernel) rfl
theorem tw_co_D_wouldDeadlock : Cond.code my_D_wouldDeadlock cd_D_wouldDeadlock 7 (some .boolean) ∈ bg_tbl := bg_t (i := 222) (by decide +kernel) rfl
theorem tw_ml_L_47 : Cond.methodLink rn_L 47 my_D_whenDone ∈ bg_tbl := bg_t (i := 223) (by decide +kernel) rfl
theorem tw_im_D_whenDone : Cond.instanceMethod my_D_whenDone ∈ bg_tbl := bg_t (i := 224) (by decide +kernel) rfl
theorem tw_se_D_whenDone : Cond.selects rn_D my_D_whenDone my_D_whenDone ∈ bg_tbl := bg_t (i := 225) (by decide +kernel) rfl
theorem tw_co_D_whenDone : Cond.code my_D_whenDone cd_D_whenDone 6 (some .int) ∈ bg_tbl := bg_t (i := 226) (by decide +kernel) rfl
theorem tw_ml_D_114 : Cond.methodLink rn_D 114 my_G_isEmpty ∈ bg_tbl := bg_t (i := 227) (by decide +kernel) rfl
theorem tw_im_G_isEmpty : Cond.instanceMethod my_G_isEmpty ∈ bg_tbl := bg_t (i := 228) (by decide +kernel) rfl
theorem tw_se_G_isEmpty : Cond.selects rn_G my_G_isEmpty my_G_isEmpty ∈ bg_tbl := bg_t (i := 229) (by decide +kernel) rfl
theorem tw_co_G_isEmpty : Cond.code my_G_isEmpty cd_G_isEmpty 1 (some .boolean) ∈ bg_tbl := bg_t (i := 230) (by decide +kernel) rfl
theorem tw_ml_L_51 : Cond.methodLink rn_L 51 my_D_enter ∈ bg_tbl := bg_t (i := 231) (by decide +kernel) rfl
theorem tw_im_D_enter : Cond.instanceMethod my_D_enter ∈ bg_tbl := bg_t (i := 232) (by decide +kernel) rfl
theorem tw_se_D_enter : Cond.selects rn_D my_D_enter my_D_enter ∈ bg_tbl := bg_t (i := 233) (by decide +kernel) rfl
theorem tw_co_D_enter : Cond.code my_D_enter cd_D_enter 3 (some .boolean) ∈ bg_tbl := bg_t (i := 234) (by decide +kernel) rfl
theorem tw_ml_L_56 : Cond.methodLink rn_L 56 my_D_leave ∈ bg_tbl := bg_t (i := 235) (by decide +kernel) rfl
theorem tw_im_D_leave : Cond.instanceMethod my_D_leave ∈ bg_tbl := bg_t (i := 236) (by decide +kernel) rfl
theorem tw_se_D_leave : Cond.selects rn_D my_D_leave my_D_leave ∈ bg_tbl := bg_t (i := 237) (by decide +kernel) rfl
theorem tw_co_D_leave : Cond.code my_D_leave cd_D_leave 3 (some .boolean) ∈ bg_tbl := bg_t (i := 238) (by decide +kernel) rfl
theorem tw_ml_D_123 : Cond.methodLink rn_D 123 my_D_releaseIfEmpty ∈ bg_tbl := bg_t (i := 239) (by decide +kernel) rfl
theorem tw_im_D_releaseIfEmpty : Cond.instanceMethod my_D_releaseIfEmpty ∈ bg_tbl := bg_t (i := 241) (by decide +kernel) rfl
theorem tw_co_D_releaseIfEmpty : Cond.code my_D_releaseIfEmpty cd_D_releaseIfEmpty 3 none ∈ bg_tbl := bg_t (i := 242) (by decide +kernel) rfl
theorem tw_ml_L_60 : Cond.methodLink rn_L 60 my_D_cancel ∈ bg_tbl := bg_t (i := 243) (by decide +kernel) rfl
theorem tw_im_D_cancel : Cond.instanceMethod my_D_cancel ∈ bg_tbl := bg_t (i := 244) (by decide +kernel) rfl
theorem tw_se_D_cancel : Cond.selects rn_D my_D_cancel my_D_cancel ∈ bg_tbl := bg_t (i := 245) (by decide +kernel) rfl
theorem tw_co_D_cancel : Cond.code my_D_cancel cd_D_cancel 3 (some .boolean) ∈ bg_tbl := bg_t (i := 246) (by decide +kernel) rfl
theorem tw_ml_D_131 : Cond.methodLink rn_D 131 my_B_isAhead ∈ bg_tbl := bg_t (i := 247) (by decide +kernel) rfl
theorem tw_im_B_isAhead : Cond.instanceMethod my_B_isAhead ∈ bg_tbl := bg_t (i := 248) (by decide +kernel) rfl
theorem tw_se_B_isAhead : Cond.selects rn_B my_B_isAhead my_B_isAhead ∈ bg_tbl := bg_t (i := 249) (by decide +kernel) rfl
theorem tw_co_B_isAhead : Cond.code my_B_isAhead cd_B_isAhead 1 (some .boolean) ∈ bg_tbl := bg_t (i := 250) (by decide +kernel) rfl
theorem tw_ml_L_64 : Cond.methodLink rn_L 64 my_D_hold ∈ bg_tbl := bg_t (i := 251) (by decide +kernel) rfl
theorem tw_im_D_hold : Cond.instanceMethod my_D_hold ∈ bg_tbl := bg_t (i := 252) (by decide +kernel) rfl
theorem tw_se_D_hold : Cond.selects rn_D my_D_hold my_D_hold ∈ bg_tbl := bg_t (i := 253) (by decide +kernel) rfl
theorem tw_co_D_hold : Cond.code my_D_hold cd_D_hold 4 (some .int) ∈ bg_tbl := bg_t (i := 254) (by decide +kernel) rfl
theorem tw_ml_L_69 : Cond.methodLink rn_L 69 my_D_begin ∈ bg_tbl := bg_t (i := 255) (by decide +kernel) rfl
theorem tw_im_D_begin : Cond.instanceMethod my_D_begin ∈ bg_tbl := bg_t (i := 256) (by decide +kernel) rfl
theorem tw_se_D_begin : Cond.selects rn_D my_D_begin my_D_begin ∈ bg_tbl := bg_t (i := 257) (by decide +kernel) rfl
theorem tw_co_D_begin : Cond.code my_D_begin cd_D_begin 3 (some .int) ∈ bg_tbl := bg_t (i := 258) (by decide +kernel) rfl
theorem tw_ml_D_137 : Cond.methodLink rn_D 137 my_D_choose ∈ bg_tbl := bg_t (i := 259) (by decide +kernel) rfl
theorem tw_im_D_choose : Cond.instanceMethod my_D_choose ∈ bg_tbl := bg_t (i := 261) (by decide +kernel) rfl
theorem tw_co_D_choose : Cond.code my_D_choose cd_D_choose 4 (some (.object "BarrierDispatch$Block")) ∈ bg_tbl := bg_t (i := 262) (by decide +kernel) rfl
theorem tw_ml_D_177 : Cond.methodLink rn_D 177 my_D_mayStart ∈ bg_tbl := bg_t (i := 263) (by decide +kernel) rfl
theorem tw_im_D_mayStart : Cond.instanceMethod my_D_mayStart ∈ bg_tbl := bg_t (i := 265) (by decide +kernel) rfl
theorem tw_co_D_mayStart : Cond.code my_D_mayStart cd_D_mayStart 2 (some .boolean) ∈ bg_tbl := bg_t (i := 266) (by decide +kernel) rfl
theorem tw_ml_D_207 : Cond.methodLink rn_D 207 my_B_isLetIn ∈ bg_tbl := bg_t (i := 267) (by decide +kernel) rfl
theorem tw_im_B_isLetIn : Cond.instanceMethod my_B_isLetIn ∈ bg_tbl := bg_t (i := 268) (by decide +kernel) rfl
theorem tw_se_B_isLetIn : Cond.selects rn_B my_B_isLetIn my_B_isLetIn ∈ bg_tbl := bg_t (i := 269) (by decide +kernel) rfl
theorem tw_co_B_isLetIn : Cond.code my_B_isLetIn cd_B_isLetIn 2 (some .boolean) ∈ bg_tbl := bg_t (i := 270) (by decide +kernel) rfl
theorem tw_ml_B_34 : Cond.methodLink rn_B 34 my_Q_hasRoom ∈ bg_tbl := bg_t (i := 271) (by decide +kernel) rfl
theorem tw_im_Q_hasRoom : Cond.instanceMethod my_Q_hasRoom ∈ bg_tbl := bg_t (i := 272) (by decide +kernel) rfl
theorem tw_se_Q_hasRoom : Cond.selects rn_Q my_Q_hasRoom my_Q_hasRoom ∈ bg_tbl := bg_t (i := 273) (by decide +kernel) rfl
theorem tw_co_Q_hasRoom : Cond.code my_Q_hasRoom cd_Q_hasRoom 1 (some .boolean) ∈ bg_tbl := bg_t (i := 274) (by decide +kernel) rfl
theorem tw_ml_Q_20 : Cond.methodLink rn_Q 20 my_Q_isRoot ∈ bg_tbl := bg_t (i := 275) (by decide +kernel) rfl
theorem tw_ml_B_41 : Cond.methodLink rn_B 41 my_Q_isClosed ∈ bg_tbl := bg_t (i := 276) (by decide +kernel) rfl
theorem tw_im_Q_isClosed : Cond.instanceMethod my_Q_isClosed ∈ bg_tbl := bg_t (i := 277) (by decide +kernel) rfl
theorem tw_se_Q_isClosed : Cond.selects rn_Q my_Q_isClosed my_Q_isClosed ∈ bg_tbl := bg_t (i := 278) (by decide +kernel) rfl
theorem tw_co_Q_isClosed : Cond.code my_Q_isClosed cd_Q_isClosed 1 (some .boolean) ∈ bg_tbl := bg_t (i := 279) (by decide +kernel) rfl
theorem tw_ml_D_204 : Cond.methodLink rn_D 204 my_B_goesBefore ∈ bg_tbl := bg_t (i := 280) (by decide +kernel) rfl
theorem tw_im_B_goesBefore : Cond.instanceMethod my_B_goesBefore ∈ bg_tbl := bg_t (i := 281) (by decide +kernel) rfl
theorem tw_se_B_goesBefore : Cond.selects rn_B my_B_goesBefore my_B_goesBefore ∈ bg_tbl := bg_t (i := 282) (by decide +kernel) rfl
theorem tw_co_B_goesBefore : Cond.code my_B_goesBefore cd_B_goesBefore 4 (some .boolean) ∈ bg_tbl := bg_t (i := 283) (by decide +kernel) rfl
theorem tw_ml_B_47 : Cond.methodLink rn_B 47 my_Q_quality ∈ bg_tbl := bg_t (i := 284) (by decide +kernel) rfl
theorem tw_im_Q_quality : Cond.instanceMethod my_Q_quality ∈ bg_tbl := bg_t (i := 285) (by decide +kernel) rfl
theorem tw_se_Q_quality : Cond.selects rn_Q my_Q_quality my_Q_quality ∈ bg_tbl := bg_t (i := 286) (by decide +kernel) rfl
theorem tw_co_Q_quality : Cond.code my_Q_quality cd_Q_quality 3 (some .int) ∈ bg_tbl := bg_t (i := 287) (by decide +kernel) rfl
theorem tw_ml_D_144 : Cond.methodLink rn_D 144 my_Q_dropFirst ∈ bg_tbl := bg_t (i := 288) (by decide +kernel) rfl
theorem tw_im_Q_dropFirst : Cond.instanceMethod my_Q_dropFirst ∈ bg_tbl := bg_t (i := 289) (by decide +kernel) rfl
theorem tw_se_Q_dropFirst : Cond.selects rn_Q my_Q_dropFirst my_Q_dropFirst ∈ bg_tbl := bg_t (i := 290) (by decide +kernel) rfl
theorem tw_co_Q_dropFirst : Cond.code my_Q_dropFirst cd_Q_dropFirst 1 none ∈ bg_tbl := bg_t (i := 291) (by decide +kernel) rfl
theorem tw_ml_D_147 : Cond.methodLink rn_D 147 my_D_start ∈ bg_tbl := bg_t (i := 292) (by decide +kernel) rfl
theorem tw_im_D_start : Cond.instanceMethod my_D_start ∈ bg_tbl := bg_t (i := 294) (by decide +kernel) rfl
theorem tw_co_D_start : Cond.code my_D_start cd_D_start 3 none ∈ bg_tbl := bg_t (i := 295) (by decide +kernel) rfl
theorem tw_ml_D_150 : Cond.methodLink rn_D 150 my_D_conclude ∈ bg_tbl := bg_t (i := 296) (by decide +kernel) rfl
theorem tw_im_D_conclude : Cond.instanceMethod my_D_conclude ∈ bg_tbl := bg_t (i := 298) (by decide +kernel) rfl
theorem tw_co_D_conclude : Cond.code my_D_conclude cd_D_conclude 3 none ∈ bg_tbl := bg_t (i := 299) (by decide +kernel) rfl
theorem tw_ml_L_74 : Cond.methodLink rn_L 74 my_D_finish ∈ bg_tbl := bg_t (i := 300) (by decide +kernel) rfl
theorem tw_im_D_finish : Cond.instanceMethod my_D_finish ∈ bg_tbl := bg_t (i := 301) (by decide +kernel) rfl
theorem tw_se_D_finish : Cond.selects rn_D my_D_finish my_D_finish ∈ bg_tbl := bg_t (i := 302) (by decide +kernel) rfl
theorem tw_co_D_finish : Cond.code my_D_finish cd_D_finish 3 (some .boolean) ∈ bg_tbl := bg_t (i := 303) (by decide +kernel) rfl
theorem tw_ml_D_154 : Cond.methodLink rn_D 154 my_D_withdraw ∈ bg_tbl := bg_t (i := 304) (by decide +kernel) rfl
theorem tw_im_D_withdraw : Cond.instanceMethod my_D_withdraw ∈ bg_tbl := bg_t (i := 306) (by decide +kernel) rfl
theorem tw_co_D_withdraw : Cond.code my_D_withdraw cd_D_withdraw 3 none ∈ bg_tbl := bg_t (i := 307) (by decide +kernel) rfl
theorem tw_ml_L_78 : Cond.methodLink rn_L 78 my_D_advance ∈ bg_tbl := bg_t (i := 308) (by decide +kernel) rfl
theorem tw_im_D_advance : Cond.instanceMethod my_D_advance ∈ bg_tbl := bg_t (i := 309) (by decide +kernel) rfl
theorem tw_se_D_advance : Cond.selects rn_D my_D_advance my_D_advance ∈ bg_tbl := bg_t (i := 310) (by decide +kernel) rfl
theorem tw_co_D_advance : Cond.code my_D_advance cd_D_advance 7 (some .int) ∈ bg_tbl := bg_t (i := 311) (by decide +kernel) rfl
theorem tw_k2_D_157 : Cond.constantLong rn_D 157 9223372036854775806 ∈ bg_tbl := bg_t (i := 312) (by decide +kernel) rfl
theorem tw_ml_D_162 : Cond.methodLink rn_D 162 my_J_minL ∈ bg_tbl := bg_t (i := 313) (by decide +kernel) rfl
theorem tw_st_J_minL : Cond.static my_J_minL ∈ bg_tbl := bg_t (i := 314) (by decide +kernel) rfl
theorem tw_co_J_minL : Cond.code my_J_minL prog_7_method_70_code 4 (some .long) ∈ bg_tbl := bg_t (i := 315) (by decide +kernel) rfl
theorem tw_ml_D_165 : Cond.methodLink rn_D 165 my_D_nextDue ∈ bg_tbl := bg_t (i := 316) (by decide +kernel) rfl
theorem tw_im_D_nextDue : Cond.instanceMethod my_D_nextDue ∈ bg_tbl := bg_t (i := 318) (by decide +kernel) rfl
theorem tw_co_D_nextDue : Cond.code my_D_nextDue cd_D_nextDue 5 (some (.object "BarrierDispatch$Block")) ∈ bg_tbl := bg_t (i := 319) (by decide +kernel) rfl
theorem tw_ml_L_83 : Cond.methodLink rn_L 83 my_D_now ∈ bg_tbl := bg_t (i := 320) (by decide +kernel) rfl
theorem tw_im_D_now : Cond.instanceMethod my_D_now ∈ bg_tbl := bg_t (i := 321) (by decide +kernel) rfl
theorem tw_se_D_now : Cond.selects rn_D my_D_now my_D_now ∈ bg_tbl := bg_t (i := 322) (by decide +kernel) rfl
theorem tw_co_D_now : Cond.code my_D_now cd_D_now 1 (some .long) ∈ bg_tbl := bg_t (i := 323) (by decide +kernel) rfl
theorem tw_ml_L_88 : Cond.methodLink rn_L 88 my_D_state ∈ bg_tbl := bg_t (i := 324) (by decide +kernel) rfl
theorem tw_im_D_state : Cond.instanceMethod my_D_state ∈ bg_tbl := bg_t (i := 325) (by decide +kernel) rfl
theorem tw_se_D_state : Cond.selects rn_D my_D_state my_D_state ∈ bg_tbl := bg_t (i := 326) (by decide +kernel) rfl
theorem tw_co_D_state : Cond.code my_D_state cd_D_state 3 (some .int) ∈ bg_tbl := bg_t (i := 327) (by decide +kernel) rfl
theorem tw_ml_L_93 : Cond.methodLink rn_L 93 my_D_queued ∈ bg_tbl := bg_t (i := 328) (by decide +kernel) rfl
theorem tw_im_D_queued : Cond.instanceMethod my_D_queued ∈ bg_tbl := bg_t (i := 329) (by decide +kernel) rfl
theorem tw_se_D_queued : Cond.selects rn_D my_D_queued my_D_queued ∈ bg_tbl := bg_t (i := 330) (by decide +kernel) rfl
theorem tw_co_D_queued : Cond.code my_D_queued cd_D_queued 3 (some .int) ∈ bg_tbl := bg_t (i := 331) (by decide +kernel) rfl
theorem tw_ml_L_97 : Cond.methodLink rn_L 97 my_D_through ∈ bg_tbl := bg_t (i := 332) (by decide +kernel) rfl
theorem tw_im_D_through : Cond.instanceMethod my_D_through ∈ bg_tbl := bg_t (i := 333) (by decide +kernel) rfl
theorem tw_se_D_through : Cond.selects rn_D my_D_through my_D_through ∈ bg_tbl := bg_t (i := 334) (by decide +kernel) rfl
theorem tw_co_D_through : Cond.code my_D_through cd_D_through 3 (some .int) ∈ bg_tbl := bg_t (i := 335) (by decide +kernel) rfl
theorem tw_ml_L_101 : Cond.methodLink rn_L 101 my_D_peak ∈ bg_tbl := bg_t (i := 336) (by decide +kernel) rfl
theorem tw_im_D_peak : Cond.instanceMethod my_D_peak ∈ bg_tbl := bg_t (i := 337) (by decide +kernel) rfl
theorem tw_se_D_peak : Cond.selects rn_D my_D_peak my_D_peak ∈ bg_tbl := bg_t (i := 338) (by decide +kernel) rfl
theorem tw_co_D_peak : Cond.code my_D_peak cd_D_peak 3 (some .int) ∈ bg_tbl := bg_t (i := 339) (by decide +kernel) rfl
theorem tw_ml_L_105 : Cond.methodLink rn_L 105 my_D_count ∈ bg_tbl := bg_t (i := 340) (by decide +kernel) rfl
theorem tw_im_D_count : Cond.instanceMethod my_D_count ∈ bg_tbl := bg_t (i := 341) (by decide +kernel) rfl
theorem tw_se_D_count : Cond.selects rn_D my_D_count my_D_count ∈ bg_tbl := bg_t (i := 342) (by decide +kernel) rfl
theorem tw_co_D_count : Cond.code my_D_count cd_D_count 3 (some .int) ∈ bg_tbl := bg_t (i := 343) (by decide +kernel) rfl
theorem tw_ml_L_109 : Cond.methodLink rn_L 109 my_D_ready ∈ bg_tbl := bg_t (i := 344) (by decide +kernel) rfl
theorem tw_im_D_ready : Cond.instanceMethod my_D_ready ∈ bg_tbl := bg_t (i := 345) (by decide +kernel) rfl
theorem tw_se_D_ready : Cond.selects rn_D my_D_ready my_D_ready ∈ bg_tbl := bg_t (i := 346) (by decide +kernel) rfl
theorem tw_co_D_ready : Cond.code my_D_ready cd_D_ready 3 (some .int) ∈ bg_tbl := bg_t (i := 347) (by decide +kernel) rfl
theorem tw_ml_L_9 : Cond.methodLink rn_L 9 my_L_cell ∈ bg_tbl := bg_t (i := 348) (by decide +kernel) rfl
theorem tw_st_L_cell : Cond.static my_L_cell ∈ bg_tbl := bg_t (i := 349) (by decide +kernel) rfl
theorem tw_co_L_cell : Cond.code my_L_cell cd_L_cell 2 (some .int) ∈ bg_tbl := bg_t (i := 350) (by decide +kernel) rfl
theorem tw_cl_L_18 : Cond.classLink rn_L 18 rn_M ∈ bg_tbl := bg_t (i := 351) (by decide +kernel) rfl
theorem tw_is_M : Cond.instantiable rn_M 19 ∈ bg_tbl := bg_t (i := 352) (by decide +kernel) rfl
theorem tw_ml_L_20 : Cond.methodLink rn_L 20 my_M_init ∈ bg_tbl := bg_t (i := 353) (by decide +kernel) rfl
theorem tw_im_M_init : Cond.instanceMethod my_M_init ∈ bg_tbl := bg_t (i := 354) (by decide +kernel) rfl
theorem tw_co_M_init : Cond.code my_M_init cd_M_init 2 none ∈ bg_tbl := bg_t (i := 355) (by decide +kernel) rfl
theorem tw_ml_M_1 : Cond.methodLink rn_M 1 objectInit ∈ bg_tbl := bg_t (i := 356) (by decide +kernel) rfl
theorem tw_fl_M_58 : Cond.fieldLink rn_M 58 rn_M (ft_M 0).2.1 (ft_M 0).2.2.1 ∈ bg_tbl := bg_t (i := 357) (by decide +kernel) rfl
theorem tw_fl_M_7 : Cond.fieldLink rn_M 7 rn_M (ft_M 1).2.1 (ft_M 1).2.2.1 ∈ bg_tbl := bg_t (i := 358) (by decide +kernel) rfl
theorem tw_fl_M_13 : Cond.fieldLink rn_M 13 rn_M (ft_M 2).2.1 (ft_M 2).2.2.1 ∈ bg_tbl := bg_t (i := 359) (by decide +kernel) rfl
theorem tw_fl_M_17 : Cond.fieldLink rn_M 17 rn_M (ft_M 3).2.1 (ft_M 3).2.2.1 ∈ bg_tbl := bg_t (i := 360) (by decide +kernel) rfl
theorem tw_fl_M_20 : Cond.fieldLink rn_M 20 rn_M (ft_M 4).2.1 (ft_M 4).2.2.1 ∈ bg_tbl := bg_t (i := 361) (by decide +kernel) rfl
theorem tw_fl_M_23 : Cond.fieldLink rn_M 23 rn_M (ft_M 5).2.1 (ft_M 5).2.2.1 ∈ bg_tbl := bg_t (i := 362) (by decide +kernel) rfl
theorem tw_fl_M_61 : Cond.fieldLink rn_M 61 rn_M (ft_M 6).2.1 (ft_M 6).2.2.1 ∈ bg_tbl := bg_t (i := 363) (by decide +kernel) rfl
theorem tw_fl_M_26 : Cond.fieldLink rn_M 26 rn_M (ft_M 7).2.1 (ft_M 7).2.2.1 ∈ bg_tbl := bg_t (i := 364) (by decide +kernel) rfl
theorem tw_fl_M_29 : Cond.fieldLink rn_M 29 rn_M (ft_M 8).2.1 (ft_M 8).2.2.1 ∈ bg_tbl := bg_t (i := 365) (by decide +kernel) rfl
theorem tw_fl_M_32 : Cond.fieldLink rn_M 32 rn_M (ft_M 9).2.1 (ft_M 9).2.2.1 ∈ bg_tbl := bg_t (i := 366) (by decide +kernel) rfl
theorem tw_fl_M_35 : Cond.fieldLink rn_M 35 rn_M (ft_M 10).2.1 (ft_M 10).2.2.1 ∈ bg_tbl := bg_t (i := 367) (by decide +kernel) rfl
theorem tw_fl_M_38 : Cond.fieldLink rn_M 38 rn_M (ft_M 11).2.1 (ft_M 11).2.2.1 ∈ bg_tbl := bg_t (i := 368) (by decide +kernel) rfl
theorem tw_fl_M_41 : Cond.fieldLink rn_M 41 rn_M (ft_M 12).2.1 (ft_M 12).2.2.1 ∈ bg_tbl := bg_t (i := 369) (by decide +kernel) rfl
theorem tw_fl_M_44 : Cond.fieldLink rn_M 44 rn_M (ft_M 13).2.1 (ft_M 13).2.2.1 ∈ bg_tbl := bg_t (i := 370) (by decide +kernel) rfl
theorem tw_fl_M_48 : Cond.fieldLink rn_M 48 rn_M (ft_M 14).2.1 (ft_M 14).2.2.1 ∈ bg_tbl := bg_t (i := 371) (by decide +kernel) rfl
theorem tw_fl_M_52 : Cond.fieldLink rn_M 52 rn_M (ft_M 15).2.1 (ft_M 15).2.2.1 ∈ bg_tbl := bg_t (i := 372) (by decide +kernel) rfl
theorem tw_fl_M_89 : Cond.fieldLink rn_M 89 rn_M (ft_M 16).2.1 (ft_M 16).2.2.1 ∈ bg_tbl := bg_t (i := 373) (by decide +kernel) rfl
theorem tw_fl_M_55 : Cond.fieldLink rn_M 55 rn_M (ft_M 17).2.1 (ft_M 17).2.2.1 ∈ bg_tbl := bg_t (i := 374) (by decide +kernel) rfl
theorem tw_fl_M_111 : Cond.fieldLink rn_M 111 rn_M (ft_M 18).2.1 (ft_M 18).2.2.1 ∈ bg_tbl := bg_t (i := 375) (by decide +kernel) rfl
theorem tw_ac_int : Cond.arrayClass .int ∈ bg_tbl := bg_t (i := 415) (by decide +kernel) rfl
theorem tw_ac_long : Cond.arrayClass .long ∈ bg_tbl := bg_t (i := 416) (by decide +kernel) rfl
theorem tw_ac_boolean : Cond.arrayClass .boolean ∈ bg_tbl := bg_t (i := 417) (by decide +kernel) rfl
theorem tw_ml_L_25 : Cond.methodLink rn_L 25 my_M_queue ∈ bg_tbl := bg_t (i := 418) (by decide +kernel) rfl
theorem tw_im_M_queue : Cond.instanceMethod my_M_queue ∈ bg_tbl := bg_t (i := 419) (by decide +kernel) rfl
theorem tw_se_M_queue : Cond.selects rn_M my_M_queue my_M_queue ∈ bg_tbl := bg_t (i := 420) (by decide +kernel) rfl
theorem tw_co_M_queue : Cond.code my_M_queue cd_M_queue 3 (some .int) ∈ bg_tbl := bg_t (i := 421) (by decide +kernel) rfl
theorem tw_ml_M_102 : Cond.methodLink rn_M 102 my_M_isQueue ∈ bg_tbl := bg_t (i := 422) (by decide +kernel) rfl
theorem tw_im_M_isQueue : Cond.instanceMethod my_M_isQueue ∈ bg_tbl := bg_t (i := 424) (by decide +kernel) rfl
theorem tw_co_M_isQueue : Cond.code my_M_isQueue cd_M_isQueue 2 (some .boolean) ∈ bg_tbl := bg_t (i := 425) (by decide +kernel) rfl
theorem tw_ml_L_29 : Cond.methodLink rn_L 29 my_M_retarget ∈ bg_tbl := bg_t (i := 426) (by decide +kernel) rfl
theorem tw_im_M_retarget : Cond.instanceMethod my_M_retarget ∈ bg_tbl := bg_t (i := 427) (by decide +kernel) rfl
theorem tw_se_M_retarget : Cond.selects rn_M my_M_retarget my_M_retarget ∈ bg_tbl := bg_t (i := 428) (by decide +kernel) rfl
theorem tw_co_M_retarget : Cond.code my_M_retarget cd_M_retarget 3 (some .int) ∈ bg_tbl := bg_t (i := 429) (by decide +kernel) rfl
theorem tw_ml_M_64 : Cond.methodLink rn_M 64 my_M_leads ∈ bg_tbl := bg_t (i := 430) (by decide +kernel) rfl
theorem tw_im_M_leads : Cond.instanceMethod my_M_leads ∈ bg_tbl := bg_t (i := 432) (by decide +kernel) rfl
theorem tw_co_M_leads : Cond.code my_M_leads cd_M_leads 5 (some .boolean) ∈ bg_tbl := bg_t (i := 433) (by decide +kernel) rfl
theorem tw_ml_M_72 : Cond.methodLink rn_M 72 my_M_passing ∈ bg_tbl := bg_t (i := 434) (by decide +kernel) rfl
theorem tw_im_M_passing : Cond.instanceMethod my_M_passing ∈ bg_tbl := bg_t (i := 436) (by decide +kernel) rfl
theorem tw_co_M_passing : Cond.code my_M_passing cd_M_passing 4 (some .int) ∈ bg_tbl := bg_t (i := 437) (by decide +kernel) rfl
theorem tw_ml_M_68 : Cond.methodLink rn_M 68 my_M_live ∈ bg_tbl := bg_t (i := 438) (by decide +kernel) rfl
theorem tw_im_M_live : Cond.instanceMethod my_M_live ∈ bg_tbl := bg_t (i := 440) (by decide +kernel) rfl
theorem tw_co_M_live : Cond.code my_M_live cd_M_live 2 (some .boolean) ∈ bg_tbl := bg_t (i := 441) (by decide +kernel) rfl
theorem tw_ml_L_34 : Cond.methodLink rn_L 34 my_M_submit ∈ bg_tbl := bg_t (i := 442) (by decide +kernel) rfl
theorem tw_im_M_submit : Cond.instanceMethod my_M_submit ∈ bg_tbl := bg_t (i := 443) (by decide +kernel) rfl
theorem tw_se_M_submit : Cond.selects rn_M my_M_submit my_M_submit ∈ bg_tbl := bg_t (i := 444) (by decide +kernel) rfl
theorem tw_co_M_submit : Cond.code my_M_submit cd_M_submit 5 (some .int) ∈ bg_tbl := bg_t (i := 445) (by decide +kernel) rfl
theorem tw_ml_M_105 : Cond.methodLink rn_M 105 my_M_accept ∈ bg_tbl := bg_t (i := 446) (by decide +kernel) rfl
theorem tw_im_M_accept : Cond.instanceMethod my_M_accept ∈ bg_tbl := bg_t (i := 448) (by decide +kernel) rfl
theorem tw_co_M_accept : Cond.code my_M_accept cd_M_accept 4 (some .int) ∈ bg_tbl := bg_t (i := 449) (by decide +kernel) rfl
theorem tw_ml_M_95 : Cond.methodLink rn_M 95 my_M_line ∈ bg_tbl := bg_t (i := 450) (by decide +kernel) rfl
theorem tw_im_M_line : Cond.instanceMethod my_M_line ∈ bg_tbl := bg_t (i := 452) (by decide +kernel) rfl
theorem tw_co_M_line : Cond.code my_M_line cd_M_line 2 none ∈ bg_tbl := bg_t (i := 453) (by decide +kernel) rfl
theorem tw_ml_L_41 : Cond.methodLink rn_L 41 my_M_after ∈ bg_tbl := bg_t (i := 454) (by decide +kernel) rfl
theorem tw_im_M_after : Cond.instanceMethod my_M_after ∈ bg_tbl := bg_t (i := 455) (by decide +kernel) rfl
theorem tw_se_M_after : Cond.selects rn_M my_M_after my_M_after ∈ bg_tbl := bg_t (i := 456) (by decide +kernel) rfl
theorem tw_co_M_after : Cond.code my_M_after cd_M_after 5 (some .int) ∈ bg_tbl := bg_t (i := 457) (by decide +kernel) rfl
theorem tw_k2_M_109 : Cond.constantLong rn_M 109 9223372036854775807 ∈ bg_tbl := bg_t (i := 458) (by decide +kernel) rfl
theorem tw_ml_L_46 : Cond.methodLink rn_L 46 my_M_call ∈ bg_tbl := bg_t (i := 459) (by decide +kernel) rfl
theorem tw_im_M_call : Cond.instanceMethod my_M_call ∈ bg_tbl := bg_t (i := 460) (by decide +kernel) rfl
theorem tw_se_M_call : Cond.selects rn_M my_M_call my_M_call ∈ bg_tbl := bg_t (i := 461) (by decide +kernel) rfl
theorem tw_co_M_call : Cond.code my_M_call cd_M_call 6 (some .int) ∈ bg_tbl := bg_t (i := 462) (by decide +kernel) rfl
theorem tw_ml_M_115 : Cond.methodLink rn_M 115 my_M_isBlock ∈ bg_tbl := bg_t (i := 463) (by decide +kernel) rfl
theorem tw_im_M_isBlock : Cond.instanceMethod my_M_isBlock ∈ bg_tbl := bg_t (i := 465) (by decide +kernel) rfl
theorem tw_co_M_isBlock : Cond.code my_M_isBlock cd_M_isBlock 2 (some .boolean) ∈ bg_tbl := bg_t (i := 466) (by decide +kernel) rfl
theorem tw_ml_M_118 : Cond.methodLink rn_M 118 my_M_inTheWay ∈ bg_tbl := bg_t (i := 467) (by decide +kernel) rfl
theorem tw_im_M_inTheWay : Cond.instanceMethod my_M_inTheWay ∈ bg_tbl := bg_t (i := 469) (by decide +kernel) rfl
theorem tw_co_M_inTheWay : Cond.code my_M_inTheWay cd_M_inTheWay 5 (some .boolean) ∈ bg_tbl := bg_t (i := 470) (by decide +kernel) rfl
theorem tw_ml_L_50 : Cond.methodLink rn_L 50 my_M_whenDone ∈ bg_tbl := bg_t (i := 471) (by decide +kernel) rfl
theorem tw_im_M_whenDone : Cond.instanceMethod my_M_whenDone ∈ bg_tbl := bg_t (i := 472) (by decide +kernel) rfl
theorem tw_se_M_whenDone : Cond.selects rn_M my_M_whenDone my_M_whenDone ∈ bg_tbl := bg_t (i := 473) (by decide +kernel) rfl
theorem tw_co_M_whenDone : Cond.code my_M_whenDone cd_M_whenDone 4 (some .int) ∈ bg_tbl := bg_t (i := 474) (by decide +kernel) rfl
theorem tw_ml_M_92 : Cond.methodLink rn_M 92 my_M_countOf ∈ bg_tbl := bg_t (i := 475) (by decide +kernel) rfl
theorem tw_im_M_countOf : Cond.instanceMethod my_M_countOf ∈ bg_tbl := bg_t (i := 477) (by decide +kernel) rfl
theorem tw_co_M_countOf : Cond.code my_M_countOf cd_M_countOf 4 (some .int) ∈ bg_tbl := bg_t (i := 478) (by decide +kernel) rfl
theorem tw_ml_L_55 : Cond.methodLink rn_L 55 my_M_enter ∈ bg_tbl := bg_t (i := 479) (by decide +kernel) rfl
theorem tw_im_M_enter : Cond.instanceMethod my_M_enter ∈ bg_tbl := bg_t (i := 480) (by decide +kernel) rfl
theorem tw_se_M_enter : Cond.selects rn_M my_M_enter my_M_enter ∈ bg_tbl := bg_t (i := 481) (by decide +kernel) rfl
theorem tw_co_M_enter : Cond.code my_M_enter cd_M_enter 2 (some .boolean) ∈ bg_tbl := bg_t (i := 482) (by decide +kernel) rfl
theorem tw_ml_L_59 : Cond.methodLink rn_L 59 my_M_leave ∈ bg_tbl := bg_t (i := 483) (by decide +kernel) rfl
theorem tw_im_M_leave : Cond.instanceMethod my_M_leave ∈ bg_tbl := bg_t (i := 484) (by decide +kernel) rfl
theorem tw_se_M_leave : Cond.selects rn_M my_M_leave my_M_leave ∈ bg_tbl := bg_t (i := 485) (by decide +kernel) rfl
theorem tw_co_M_leave : Cond.code my_M_leave cd_M_leave 2 (some .boolean) ∈ bg_tbl := bg_t (i := 486) (by decide +kernel) rfl
theorem tw_ml_M_99 : Cond.methodLink rn_M 99 my_M_release ∈ bg_tbl := bg_t (i := 487) (by decide +kernel) rfl
theorem tw_im_M_release : Cond.instanceMethod my_M_release ∈ bg_tbl := bg_t (i := 489) (by decide +kernel) rfl
theorem tw_co_M_release : Cond.code my_M_release cd_M_release 3 none ∈ bg_tbl := bg_t (i := 490) (by decide +kernel) rfl
theorem tw_ml_L_63 : Cond.methodLink rn_L 63 my_M_cancel ∈ bg_tbl := bg_t (i := 491) (by decide +kernel) rfl
theorem tw_im_M_cancel : Cond.instanceMethod my_M_cancel ∈ bg_tbl := bg_t (i := 492) (by decide +kernel) rfl
theorem tw_se_M_cancel : Cond.selects rn_M my_M_cancel my_M_cancel ∈ bg_tbl := bg_t (i := 493) (by decide +kernel) rfl
theorem tw_co_M_cancel : Cond.code my_M_cancel cd_M_cancel 2 (some .boolean) ∈ bg_tbl := bg_t (i := 494) (by decide +kernel) rfl
theorem tw_ml_L_68 : Cond.methodLink rn_L 68 my_M_hold ∈ bg_tbl := bg_t (i := 495) (by decide +kernel) rfl
theorem tw_im_M_hold : Cond.instanceMethod my_M_hold ∈ bg_tbl := bg_t (i := 496) (by decide +kernel) rfl
theorem tw_se_M_hold : Cond.selects rn_M my_M_hold my_M_hold ∈ bg_tbl := bg_t (i := 497) (by decide +kernel) rfl
theorem tw_co_M_hold : Cond.code my_M_hold cd_M_hold 3 (some .int) ∈ bg_tbl := bg_t (i := 498) (by decide +kernel) rfl
theorem tw_ml_L_73 : Cond.methodLink rn_L 73 my_M_begin ∈ bg_tbl := bg_t (i := 499) (by decide +kernel) rfl
theorem tw_im_M_begin : Cond.instanceMethod my_M_begin ∈ bg_tbl := bg_t (i := 500) (by decide +kernel) rfl
theorem tw_se_M_begin : Cond.selects rn_M my_M_begin my_M_begin ∈ bg_tbl := bg_t (i := 501) (by decide +kernel) rfl
theorem tw_co_M_begin : Cond.code my_M_begin cd_M_begin 4 (some .int) ∈ bg_tbl := bg_t (i := 502) (by decide +kernel) rfl
theorem tw_ml_M_128 : Cond.methodLink rn_M 128 my_M_chosen ∈ bg_tbl := bg_t (i := 503) (by decide +kernel) rfl
theorem tw_im_M_chosen : Cond.instanceMethod my_M_chosen ∈ bg_tbl := bg_t (i := 505) (by decide +kernel) rfl
theorem tw_co_M_chosen : Cond.code my_M_chosen cd_M_chosen 5 (some .int) ∈ bg_tbl := bg_t (i := 506) (by decide +kernel) rfl
theorem tw_ml_M_122 : Cond.methodLink rn_M 122 my_M_mayStart ∈ bg_tbl := bg_t (i := 507) (by decide +kernel) rfl
theorem tw_im_M_mayStart : Cond.instanceMethod my_M_mayStart ∈ bg_tbl := bg_t (i := 509) (by decide +kernel) rfl
theorem tw_co_M_mayStart : Cond.code my_M_mayStart cd_M_mayStart 3 (some .boolean) ∈ bg_tbl := bg_t (i := 510) (by decide +kernel) rfl
theorem tw_ml_M_79 : Cond.methodLink rn_M 79 my_M_oldest ∈ bg_tbl := bg_t (i := 511) (by decide +kernel) rfl
theorem tw_im_M_oldest : Cond.instanceMethod my_M_oldest ∈ bg_tbl := bg_t (i := 513) (by decide +kernel) rfl
theorem tw_co_M_oldest : Cond.code my_M_oldest cd_M_oldest 4 (some .int) ∈ bg_tbl := bg_t (i := 514) (by decide +kernel) rfl
theorem tw_ml_M_82 : Cond.methodLink rn_M 82 my_M_workersInUse ∈ bg_tbl := bg_t (i := 515) (by decide +kernel) rfl
theorem tw_im_M_workersInUse : Cond.instanceMethod my_M_workersInUse ∈ bg_tbl := bg_t (i := 517) (by decide +kernel) rfl
theorem tw_co_M_workersInUse : Cond.code my_M_workersInUse cd_M_workersInUse 3 (some .int) ∈ bg_tbl := bg_t (i := 518) (by decide +kernel) rfl
theorem tw_ml_M_86 : Cond.methodLink rn_M 86 my_M_lets ∈ bg_tbl := bg_t (i := 519) (by decide +kernel) rfl
theorem tw_im_M_lets : Cond.instanceMethod my_M_lets ∈ bg_tbl := bg_t (i := 521) (by decide +kernel) rfl
theorem tw_co_M_lets : Cond.code my_M_lets cd_M_lets 4 (some .boolean) ∈ bg_tbl := bg_t (i := 522) (by decide +kernel) rfl
theorem tw_ml_M_76 : Cond.methodLink rn_M 76 my_M_barrierRuns ∈ bg_tbl := bg_t (i := 523) (by decide +kernel) rfl
theorem tw_im_M_barrierRuns : Cond.instanceMethod my_M_barrierRuns ∈ bg_tbl := bg_t (i := 525) (by decide +kernel) rfl
theorem tw_co_M_barrierRuns : Cond.code my_M_barrierRuns cd_M_barrierRuns 3 (some .boolean) ∈ bg_tbl := bg_t (i := 526) (by decide +kernel) rfl
theorem tw_ml_M_125 : Cond.methodLink rn_M 125 my_M_root ∈ bg_tbl := bg_t (i := 527) (by decide +kernel) rfl
theorem tw_im_M_root : Cond.instanceMethod my_M_root ∈ bg_tbl := bg_t (i := 529) (by decide +kernel) rfl
theorem tw_co_M_root : Cond.code my_M_root cd_M_root 2 (some .int) ∈ bg_tbl := bg_t (i := 530) (by decide +kernel) rfl
theorem tw_ml_M_131 : Cond.methodLink rn_M 131 my_M_end ∈ bg_tbl := bg_t (i := 531) (by decide +kernel) rfl
theorem tw_im_M_end : Cond.instanceMethod my_M_end ∈ bg_tbl := bg_t (i := 533) (by decide +kernel) rfl
theorem tw_co_M_end : Cond.code my_M_end cd_M_end 3 none ∈ bg_tbl := bg_t (i := 534) (by decide +kernel) rfl
theorem tw_ml_L_77 : Cond.methodLink rn_L 77 my_M_finish ∈ bg_tbl := bg_t (i := 535) (by decide +kernel) rfl
theorem tw_im_M_finish : Cond.instanceMethod my_M_finish ∈ bg_tbl := bg_t (i := 536) (by decide +kernel) rfl
theorem tw_se_M_finish : Cond.selects rn_M my_M_finish my_M_finish ∈ bg_tbl := bg_t (i := 537) (by decide +kernel) rfl
theorem tw_co_M_finish : Cond.code my_M_finish cd_M_finish 2 (some .boolean) ∈ bg_tbl := bg_t (i := 538) (by decide +kernel) rfl
theorem tw_ml_L_82 : Cond.methodLink rn_L 82 my_M_advance ∈ bg_tbl := bg_t (i := 539) (by decide +kernel) rfl
theorem tw_im_M_advance : Cond.instanceMethod my_M_advance ∈ bg_tbl := bg_t (i := 540) (by decide +kernel) rfl
theorem tw_se_M_advance : Cond.selects rn_M my_M_advance my_M_advance ∈ bg_tbl := bg_t (i := 541) (by decide +kernel) rfl
theorem tw_co_M_advance : Cond.code my_M_advance cd_M_advance 5 (some .int) ∈ bg_tbl := bg_t (i := 542) (by decide +kernel) rfl
theorem tw_k2_M_135 : Cond.constantLong rn_M 135 9223372036854775806 ∈ bg_tbl := bg_t (i := 543) (by decide +kernel) rfl
theorem tw_ml_M_137 : Cond.methodLink rn_M 137 my_M_due ∈ bg_tbl := bg_t (i := 544) (by decide +kernel) rfl
theorem tw_im_M_due : Cond.instanceMethod my_M_due ∈ bg_tbl := bg_t (i := 546) (by decide +kernel) rfl
theorem tw_co_M_due : Cond.code my_M_due cd_M_due 3 (some .int) ∈ bg_tbl := bg_t (i := 547) (by decide +kernel) rfl
theorem tw_ml_L_87 : Cond.methodLink rn_L 87 my_M_now ∈ bg_tbl := bg_t (i := 548) (by decide +kernel) rfl
theorem tw_im_M_now : Cond.instanceMethod my_M_now ∈ bg_tbl := bg_t (i := 549) (by decide +kernel) rfl
theorem tw_se_M_now : Cond.selects rn_M my_M_now my_M_now ∈ bg_tbl := bg_t (i := 550) (by decide +kernel) rfl
theorem tw_co_M_now : Cond.code my_M_now cd_M_now 1 (some .long) ∈ bg_tbl := bg_t (i := 551) (by decide +kernel) rfl
theorem tw_ml_L_92 : Cond.methodLink rn_L 92 my_M_state ∈ bg_tbl := bg_t (i := 552) (by decide +kernel) rfl
theorem tw_im_M_state : Cond.instanceMethod my_M_state ∈ bg_tbl := bg_t (i := 553) (by decide +kernel) rfl
theorem tw_se_M_state : Cond.selects rn_M my_M_state my_M_state ∈ bg_tbl := bg_t (i := 554) (by decide +kernel) rfl
theorem tw_co_M_state : Cond.code my_M_state cd_M_state 2 (some .int) ∈ bg_tbl := bg_t (i := 555) (by decide +kernel) rfl
theorem tw_ml_L_96 : Cond.methodLink rn_L 96 my_M_queued ∈ bg_tbl := bg_t (i := 556) (by decide +kernel) rfl
theorem tw_im_M_queued : Cond.instanceMethod my_M_queued ∈ bg_tbl := bg_t (i := 557) (by decide +kernel) rfl
theorem tw_se_M_queued : Cond.selects rn_M my_M_queued my_M_queued ∈ bg_tbl := bg_t (i := 558) (by decide +kernel) rfl
theorem tw_co_M_queued : Cond.code my_M_queued cd_M_queued 4 (some .int) ∈ bg_tbl := bg_t (i := 559) (by decide +kernel) rfl
theorem tw_ml_L_100 : Cond.methodLink rn_L 100 my_M_through ∈ bg_tbl := bg_t (i := 560) (by decide +kernel) rfl
theorem tw_im_M_through : Cond.instanceMethod my_M_through ∈ bg_tbl := bg_t (i := 561) (by decide +kernel) rfl
theorem tw_se_M_through : Cond.selects rn_M my_M_through my_M_through ∈ bg_tbl := bg_t (i := 562) (by decide +kernel) rfl
theorem tw_co_M_through : Cond.code my_M_through cd_M_through 2 (some .int) ∈ bg_tbl := bg_t (i := 563) (by decide +kernel) rfl
theorem tw_ml_L_104 : Cond.methodLink rn_L 104 my_M_peak ∈ bg_tbl := bg_t (i := 564) (by decide +kernel) rfl
theorem tw_im_M_peak : Cond.instanceMethod my_M_peak ∈ bg_tbl := bg_t (i := 565) (by decide +kernel) rfl
theorem tw_se_M_peak : Cond.selects rn_M my_M_peak my_M_peak ∈ bg_tbl := bg_t (i := 566) (by decide +kernel) rfl
theorem tw_co_M_peak : Cond.code my_M_peak cd_M_peak 2 (some .int) ∈ bg_tbl := bg_t (i := 567) (by decide +kernel) rfl
theorem tw_ml_L_108 : Cond.methodLink rn_L 108 my_M_count ∈ bg_tbl := bg_t (i := 568) (by decide +kernel) rfl
theorem tw_im_M_count : Cond.instanceMethod my_M_count ∈ bg_tbl := bg_t (i := 569) (by decide +kernel) rfl
theorem tw_se_M_count : Cond.selects rn_M my_M_count my_M_count ∈ bg_tbl := bg_t (i := 570) (by decide +kernel) rfl
theorem tw_co_M_count : Cond.code my_M_count cd_M_count 2 (some .int) ∈ bg_tbl := bg_t (i := 571) (by decide +kernel) rfl
theorem tw_ml_L_112 : Cond.methodLink rn_L 112 my_M_ready ∈ bg_tbl := bg_t (i := 572) (by decide +kernel) rfl
theorem tw_im_M_ready : Cond.instanceMethod my_M_ready ∈ bg_tbl := bg_t (i := 573) (by decide +kernel) rfl
theorem tw_se_M_ready : Cond.selects rn_M my_M_ready my_M_ready ∈ bg_tbl := bg_t (i := 574) (by decide +kernel) rfl
theorem tw_co_M_ready : Cond.code my_M_ready cd_M_ready 3 (some .int) ∈ bg_tbl := bg_t (i := 575) (by decide +kernel) rfl
theorem tw_k2_L_35 : Cond.constantLong rn_L 35 4294967295 ∈ bg_tbl := bg_t (i := 576) (by decide +kernel) rfl
theorem tw_se_D_queueAt : Cond.selects rn_D my_D_queueAt my_D_queueAt ∈ bg_tbl := bg_s (i := 0) (n := 9) (by decide +kernel) rfl
theorem tw_se_D_groupAt : Cond.selects rn_D my_D_groupAt my_D_groupAt ∈ bg_tbl := bg_s (i := 1) (n := 9) (by decide +kernel) rfl
theorem tw_se_D_isFull : Cond.selects rn_D my_D_isFull my_D_isFull ∈ bg_tbl := bg_s (i := 2) (n := 9) (by decide +kernel) rfl
theorem tw_se_D_accept : Cond.selects rn_D my_D_accept my_D_accept ∈ bg_tbl := bg_s (i := 3) (n := 9) (by decide +kernel) rfl
theorem tw_se_D_line : Cond.selects rn_D my_D_line my_D_line ∈ bg_tbl := bg_s (i := 4) (n := 9) (by decide +kernel) rfl
theorem tw_se_D_deadlineIn : Cond.selects rn_D my_D_deadlineIn my_D_deadlineIn ∈ bg_tbl := bg_s (i := 5) (n := 9) (by decide +kernel) rfl
theorem tw_se_D_blockAt : Cond.selects rn_D my_D_blockAt my_D_blockAt ∈ bg_tbl := bg_s (i := 6) (n := 9) (by decide +kernel) rfl
theorem tw_se_D_releaseIfEmpty : Cond.selects rn_D my_D_releaseIfEmpty my_D_releaseIfEmpty ∈ bg_tbl := bg_s (i := 7) (n := 9) (by decide +kernel) rfl
theorem tw_se_D_choose : Cond.selects rn_D my_D_choose my_D_choose ∈ bg_tbl := bg_s (i := 8) (n := 9) (by decide +kernel) rfl
theorem tw_se_D_mayStart : Cond.selects rn_D my_D_mayStart my_D_mayStart ∈ bg_tbl := bg_s (i := 9) (n := 9) (by decide +kernel) rfl
theorem tw_se_D_start : Cond.selects rn_D my_D_start my_D_start ∈ bg_tbl := bg_s (i := 10) (n := 9) (by decide +kernel) rfl
theorem tw_se_D_conclude : Cond.selects rn_D my_D_conclude my_D_conclude ∈ bg_tbl := bg_s (i := 11) (n := 9) (by decide +kernel) rfl
theorem tw_se_D_withdraw : Cond.selects rn_D my_D_withdraw my_D_withdraw ∈ bg_tbl := bg_s (i := 12) (n := 9) (by decide +kernel) rfl
theorem tw_se_D_nextDue : Cond.selects rn_D my_D_nextDue my_D_nextDue ∈ bg_tbl := bg_s (i := 13) (n := 9) (by decide +kernel) rfl
theorem tw_se_M_isQueue : Cond.selects rn_M my_M_isQueue my_M_isQueue ∈ bg_tbl := bg_s (i := 14) (n := 19) (by decide +kernel) rfl
theorem tw_se_M_leads : Cond.selects rn_M my_M_leads my_M_leads ∈ bg_tbl := bg_s (i := 15) (n := 19) (by decide +kernel) rfl
theorem tw_se_M_passing : Cond.selects rn_M my_M_passing my_M_passing ∈ bg_tbl := bg_s (i := 16) (n := 19) (by decide +kernel) rfl
theorem tw_se_M_live : Cond.selects rn_M my_M_live my_M_live ∈ bg_tbl := bg_s (i := 17) (n := 19) (by decide +kernel) rfl
theorem tw_se_M_accept : Cond.selects rn_M my_M_accept my_M_accept ∈ bg_tbl := bg_s (i := 18) (n := 19) (by decide +kernel) rfl
theorem tw_se_M_line : Cond.selects rn_M my_M_line my_M_line ∈ bg_tbl := bg_s (i := 19) (n := 19) (by decide +kernel) rfl
theorem tw_se_M_isBlock : Cond.selects rn_M my_M_isBlock my_M_isBlock ∈ bg_tbl := bg_s (i := 20) (n := 19) (by decide +kernel) rfl
theorem tw_se_M_inTheWay : Cond.selects rn_M my_M_inTheWay my_M_inTheWay ∈ bg_tbl := bg_s (i := 21) (n := 19) (by decide +kernel) rfl
theorem tw_se_M_countOf : Cond.selects rn_M my_M_countOf my_M_countOf ∈ bg_tbl := bg_s (i := 22) (n := 19) (by decide +kernel) rfl
theorem tw_se_M_release : Cond.selects rn_M my_M_release my_M_release ∈ bg_tbl := bg_s (i := 23) (n := 19) (by decide +kernel) rfl
theorem tw_se_M_chosen : Cond.selects rn_M my_M_chosen my_M_chosen ∈ bg_tbl := bg_s (i := 24) (n := 19) (by decide +kernel) rfl
theorem tw_se_M_mayStart : Cond.selects rn_M my_M_mayStart my_M_mayStart ∈ bg_tbl := bg_s (i := 25) (n := 19) (by decide +kernel) rfl
theorem tw_se_M_oldest : Cond.selects rn_M my_M_oldest my_M_oldest ∈ bg_tbl := bg_s (i := 26) (n := 19) (by decide +kernel) rfl
theorem tw_se_M_workersInUse : Cond.selects rn_M my_M_workersInUse my_M_workersInUse ∈ bg_tbl := bg_s (i := 27) (n := 19) (by decide +kernel) rfl
theorem tw_se_M_lets : Cond.selects rn_M my_M_lets my_M_lets ∈ bg_tbl := bg_s (i := 28) (n := 19) (by decide +kernel) rfl
theorem tw_se_M_barrierRuns : Cond.selects rn_M my_M_barrierRuns my_M_barrierRuns ∈ bg_tbl := bg_s (i := 29) (n := 19) (by decide +kernel) rfl
theorem tw_se_M_root : Cond.selects rn_M my_M_root my_M_root ∈ bg_tbl := bg_s (i := 30) (n := 19) (by decide +kernel) rfl
theorem tw_se_M_end : Cond.selects rn_M my_M_end my_M_end ∈ bg_tbl := bg_s (i := 31) (n := 19) (by decide +kernel) rfl
theorem tw_se_M_due : Cond.selects rn_M my_M_due my_M_due ∈ bg_tbl := bg_s (i := 32) (n := 19) (by decide +kernel) rfl
theorem tw_fs_B : ∀ w ∈ u_ws rn_B ft_B 11, w ∈ bg_tbl := by decide +kernel
theorem tw_fs_G : ∀ w ∈ u_ws rn_G ft_G 2, w ∈ bg_tbl := by decide +kernel
theorem tw_fs_Q : ∀ w ∈ u_ws rn_Q ft_Q 10, w ∈ bg_tbl := by decide +kernel
theorem tw_fs_D : ∀ w ∈ u_ws rn_D ft_D 9, w ∈ bg_tbl := by decide +kernel
theorem tw_fs_M : ∀ w ∈ u_ws rn_M ft_M 19, w ∈ bg_tbl := by decide +kernel
end
section
/-! Part 02: decode rows of the reference. -/
theorem dd_M_init_0 : decode cd_M_init 0 = .ok (.aload_n 0, 1) := by decide +kernel
theorem dd_M_init_1 : decode cd_M_init 1 = .ok (.invokespecial 1, 3) := by decide +kernel
theorem dd_M_init_4 : decode cd_M_init 4 = .ok (.aload_n 0, 1) := by decide +kernel
theorem dd_M_init_5 : decode cd_M_init 5 = .ok (.iconst 3, 1) := by decide +kernel
theorem dd_M_init_6 : decode cd_M_init 6 = .ok (.putfield 7, 3) := by decide +kernel
theorem dd_M_init_9 : decode cd_M_init 9 = .ok (.aload_n 0, 1) := by decide +kernel
theorem dd_M_init_10 : decode cd_M_init 10 = .ok (.bipush 12, 2) := by decide +kernel
theorem dd_M_init_12 : decode cd_M_init 12 = .ok (.newarray .int, 2) := by decide +kernel
theorem dd_M_init_14 : decode cd_M_init 14 = .ok (.putfield 13, 3) := by decide +kernel
theorem dd_M_init_17 : decode cd_M_init 17 = .ok (.aload_n 0, 1) := by decide +kernel
theorem dd_M_init_18 : decode cd_M_init 18 = .ok (.bipush 12, 2) := by decide +kernel
theorem dd_M_init_20 : decode cd_M_init 20 = .ok (.newarray .int, 2) := by decide +kernel
theorem dd_M_init_22 : decode cd_M_init 22 = .ok (.putfield 17, 3) := by decide +kernel
theorem dd_M_init_25 : decode cd_M_init 25 = .ok (.aload_n 0, 1) := by decide +kernel
theorem dd_M_init_26 : decode cd_M_init 26 = .ok (.bipush 12, 2) := by decide +kernel
theorem dd_M_init_28 : decode cd_M_init 28 = .ok (.newarray .int, 2) := by decide +kernel
theorem dd_M_init_30 : decode cd_M_init 30 = .ok (.putfield 20, 3) := by decide +kernel
theorem dd_M_init_33 : decode cd_M_init 33 = .ok (.aload_n 0, 1) := by decide +kernel
theorem dd_M_init_34 : decode cd_M_init 34 = .ok (.bipush 12, 2) := by decide +kernel
theorem dd_M_init_36 : decode cd_M_init 36 = .ok (.newarray .int, 2) := by decide +kernel
theorem dd_M_init_38 : decode cd_M_init 38 = .ok (.putfield 23, 3) := by decide +kernel
theorem dd_M_init_41 : decode cd_M_init 41 = .ok (.aload_n 0, 1) := by decide +kernel
theorem dd_M_init_42 : decode cd_M_init 42 = .ok (.sipush 160, 3) := by decide +kernel
theorem dd_M_init_45 : decode cd_M_init 45 = .ok (.newarray .int, 2) := by decide +kernel
theorem dd_M_init_47 : decode cd_M_init 47 = .ok (.putfield 26, 3) := by decide +kernel
theorem dd_M_init_50 : decode cd_M_init 50 = .ok (.aload_n 0, 1) := by decide +kernel
theorem dd_M_init_51 : decode cd_M_init 51 = .ok (.sipush 160, 3) := by decide +kernel
theorem dd_M_init_54 : decode cd_M_init 54 = .ok (.newarray .int, 2) := by decide +kernel
theorem dd_M_init_56 : decode cd_M_init 56 = .ok (.putfield 29, 3) := by decide +kernel
theorem dd_M_init_59 : decode cd_M_init 59 = .ok (.aload_n 0, 1) := by decide +kernel
theorem dd_M_init_60 : decode cd_M_init 60 = .ok (.sipush 160, 3) := by decide +kernel
theorem dd_M_init_63 : decode cd_M_init 63 = .ok (.newarray .int, 2) := by decide +kernel
theorem dd_M_init_65 : decode cd_M_init 65 = .ok (.putfield 32, 3) := by decide +kernel
theorem dd_M_init_68 : decode cd_M_init 68 = .ok (.aload_n 0, 1) := by decide +kernel
theorem dd_M_init_69 : decode cd_M_init 69 = .ok (.sipush 160, 3) := by decide +kernel
theorem dd_M_init_72 : decode cd_M_init 72 = .ok (.newarray .int, 2) := by decide +kernel
theorem dd_M_init_74 : decode cd_M_init 74 = .ok (.putfield 35, 3) := by decide +kernel
theorem dd_M_init_77 : decode cd_M_init 77 = .ok (.aload_n 0, 1) := by decide +kernel
theorem dd_M_init_78 : decode cd_M_init 78 = .ok (.sipush 160, 3) := by decide +kernel
theorem dd_M_init_81 : decode cd_M_init 81 = .ok (.newarray .int, 2) := by decide +kernel
theorem dd_M_init_83 : decode cd_M_init 83 = .ok (.putfield 38, 3) := by decide +kernel
theorem dd_M_init_86 : decode cd_M_init 86 = .ok (.aload_n 0, 1) := by decide +kernel
theorem dd_M_init_87 : decode cd_M_init 87 = .ok (.sipush 160, 3) := by decide +kernel
theorem dd_M_init_90 : decode cd_M_init 90 = .ok (.newarray .int, 2) := by decide +kernel
theorem dd_M_init_92 : decode cd_M_init 92 = .ok (.putfield 41, 3) := by decide +kernel
theorem dd_M_init_95 : decode cd_M_init 95 = .ok (.aload_n 0, 1) := by decide +kernel
theorem dd_M_init_96 : decode cd_M_init 96 = .ok (.sipush 160, 3) := by decide +kernel
theorem dd_M_init_99 : decode cd_M_init 99 = .ok (.newarray .long, 2) := by decide +kernel
theorem dd_M_init_101 : decode cd_M_init 101 = .ok (.putfield 44, 3) := by decide +kernel
theorem dd_M_init_104 : decode cd_M_init 104 = .ok (.aload_n 0, 1) := by decide +kernel
theorem dd_M_init_105 : decode cd_M_init 105 = .ok (.sipush 160, 3) := by decide +kernel
theorem dd_M_init_108 : decode cd_M_init 108 = .ok (.newarray .boolean, 2) := by decide +kernel
theorem dd_M_init_110 : decode cd_M_init 110 = .ok (.putfield 48, 3) := by decide +kernel
theorem dd_M_init_113 : decode cd_M_init 113 = .ok (.aload_n 0, 1) := by decide +kernel
theorem dd_M_init_114 : decode cd_M_init 114 = .ok (.sipush 160, 3) := by decide +kernel
theorem dd_M_init_117 : decode cd_M_init 117 = .ok (.newarray .boolean, 2) := by decide +kernel
theorem dd_M_init_119 : decode cd_M_init 119 = .ok (.putfield 52, 3) := by decide +kernel
theorem dd_M_init_122 : decode cd_M_init 122 = .ok (.aload_n 0, 1) := by decide +kernel
theorem dd_M_init_123 : decode cd_M_init 123 = .ok (.iconst 4, 1) := by decide +kernel
theorem dd_M_init_124 : decode cd_M_init 124 = .ok (.newarray .int, 2) := by decide +kernel
theorem dd_M_init_126 : decode cd_M_init 126 = .ok (.putfield 55, 3) := by decide +kernel
theorem dd_M_init_129 : decode cd_M_init 129 = .ok (.aload_n 0, 1) := by decide +kernel
theorem dd_M_init_130 : decode cd_M_init 130 = .ok (.iload_n 1, 1) := by decide +kernel
theorem dd_M_init_131 : decode cd_M_init 131 = .ok (.iconst 1, 1) := by decide +kernel
theorem dd_M_init_132 : decode cd_M_init 132 = .ok (.if_icmp .ge 7, 3) := by decide +kernel
theorem dd_M_init_135 : decode cd_M_init 135 = .ok (.iconst 1, 1) := by decide +kernel
theorem dd_M_init_136 : decode cd_M_init 136 = .ok (.goto 15, 3) := by decide +kernel
theorem dd_M_init_139 : decode cd_M_init 139 = .ok (.iload_n 1, 1) := by decide +kernel
theorem dd_M_init_140 : decode cd_M_init 140 = .ok (.bipush 8, 2) := by decide +kernel
theorem dd_M_init_142 : decode cd_M_init 142 = .ok (.if_icmp .le 8, 3) := by decide +kernel
theorem dd_M_init_145 : decode cd_M_init 145 = .ok (.bipush 8, 2) := by decide +kernel
theorem dd_M_init_147 : decode cd_M_init 147 = .ok (.goto 4, 3) := by decide +kernel
theorem dd_M_init_150 : decode cd_M_init 150 = .ok (.iload_n 1, 1) := by decide +kernel
theorem dd_M_init_151 : decode cd_M_init 151 = .ok (.putfield 58, 3) := by decide +kernel
theorem dd_M_init_154 : decode cd_M_init 154 = .ok (.return_, 1) := by decide +kernel
theorem dd_M_isQueue_0 : decode cd_M_isQueue 0 = .ok (.iload_n 1, 1) := by decide +kernel
theorem dd_M_isQueue_1 : decode cd_M_isQueue 1 = .ok (.ifCond .lt 15, 3) := by decide +kernel
theorem dd_M_isQueue_4 : decode cd_M_isQueue 4 = .ok (.iload_n 1, 1) := by decide +kernel
theorem dd_M_isQueue_5 : decode cd_M_isQueue 5 = .ok (.aload_n 0, 1) := by decide +kernel
theorem dd_M_isQueue_6 : decode cd_M_isQueue 6 = .ok (.getfield 7, 3) := by decide +kernel
theorem dd_M_isQueue_9 : decode cd_M_isQueue 9 = .ok (.if_icmp .ge 7, 3) := by decide +kernel
theorem dd_M_isQueue_12 : decode cd_M_isQueue 12 = .ok (.iconst 1, 1) := by decide +kernel
theorem dd_M_isQueue_13 : decode cd_M_isQueue 13 = .ok (.goto 4, 3) := by decide +kernel
theorem dd_M_isQueue_16 : decode cd_M_isQueue 16 = .ok (.iconst 0, 1) := by decide +kernel
theorem dd_M_isQueue_17 : decode cd_M_isQueue 17 = .ok (.ireturn, 1) := by decide +kernel
theorem dd_M_isBlock_0 : decode cd_M_isBlock 0 = .ok (.iload_n 1, 1) := by decide +kernel
theorem dd_M_isBlock_1 : decode cd_M_isBlock 1 = .ok (.ifCond .lt 15, 3) := by decide +kernel
theorem dd_M_isBlock_4 : decode cd_M_isBlock 4 = .ok (.iload_n 1, 1) := by decide +kernel
theorem dd_M_isBlock_5 : decode cd_M_isBlock 5 = .ok (.aload_n 0, 1) := by decide +kernel
theorem dd_M_isBlock_6 : decode cd_M_isBlock 6 = .ok (.getfield 61, 3) := by decide +kernel
theorem dd_M_isBlock_9 : decode cd_M_isBlock 9 = .ok (.if_icmp .ge 7, 3) := by decide +kernel
theorem dd_M_isBlock_12 : decode cd_M_isBlock 12 = .ok (.iconst 1, 1) := by decide +kernel
theorem dd_M_isBlock_13 : decode cd_M_isBlock 13 = .ok (.goto 4, 3) := by decide +kernel
theorem dd_M_isBlock_16 : decode cd_M_isBlock 16 = .ok (.iconst 0, 1) := by decide +kernel
theorem dd_M_isBlock_17 : decode cd_M_isBlock 17 = .ok (.ireturn, 1) := by decide +kernel
theorem dd_M_leads_0 : decode cd_M_leads 0 = .ok (.iload_n 1, 1) := by decide +kernel
theorem dd_M_leads_1 : decode cd_M_leads 1 = .ok (.istore_n 3, 1) := by decide +kernel
theorem dd_M_leads_2 : decode cd_M_leads 2 = .ok (.iconst 0, 1) := by decide +kernel
theorem dd_M_leads_3 : decode cd_M_leads 3 = .ok (.istore 4, 2) := by decide +kernel
theorem dd_M_leads_5 : decode cd_M_leads 5 = .ok (.iload 4, 2) := by decide +kernel
theorem dd_M_leads_7 : decode cd_M_leads 7 = .ok (.bipush 12, 2) := by decide +kernel
theorem dd_M_leads_9 : decode cd_M_leads 9 = .ok (.if_icmp .ge 30, 3) := by decide +kernel
theorem dd_M_leads_12 : decode cd_M_leads 12 = .ok (.iload_n 3, 1) := by decide +kernel
theorem dd_M_leads_13 : decode cd_M_leads 13 = .ok (.iload_n 2, 1) := by decide +kernel
theorem dd_M_leads_14 : decode cd_M_leads 14 = .ok (.if_icmp .ne 5, 3) := by decide +kernel
theorem dd_M_leads_17 : decode cd_M_leads 17 = .ok (.iconst 1, 1) := by decide +kernel
theorem dd_M_leads_18 : decode cd_M_leads 18 = .ok (.ireturn, 1) := by decide +kernel
theorem dd_M_leads_19 : decode cd_M_leads 19 = .ok (.iload_n 3, 1) := by decide +kernel
theorem dd_M_leads_20 : decode cd_M_leads 20 = .ok (.iconst 3, 1) := by decide +kernel
theorem dd_M_leads_21 : decode cd_M_leads 21 = .ok (.if_icmp .ge 5, 3) := by decide +kernel
theorem dd_M_leads_24 : decode cd_M_leads 24 = .ok (.iconst 0, 1) := by decide +kernel
theorem dd_M_leads_25 : decode cd_M_leads 25 = .ok (.ireturn, 1) := by decide +kernel
theorem dd_M_leads_26 : decode cd_M_leads 26 = .ok (.aload_n 0, 1) := by decide +kernel
theorem dd_M_leads_27 : decode cd_M_leads 27 = .ok (.getfield 13, 3) := by decide +kernel
theorem dd_M_leads_30 : decode cd_M_leads 30 = .ok (.iload_n 3, 1) := by decide +kernel
theorem dd_M_leads_31 : decode cd_M_leads 31 = .ok (.iaload, 1) := by decide +kernel
theorem dd_M_leads_32 : decode cd_M_leads 32 = .ok (.istore_n 3, 1) := by decide +kernel
theorem dd_M_leads_33 : decode cd_M_leads 33 = .ok (.iinc 4 1, 3) := by decide +kernel
theorem dd_M_leads_36 : decode cd_M_leads 36 = .ok (.goto (-31), 3) := by decide +kernel
theorem dd_M_leads_39 : decode cd_M_leads 39 = .ok (.iconst 0, 1) := by decide +kernel
theorem dd_M_leads_40 : decode cd_M_leads 40 = .ok (.ireturn, 1) := by decide +kernel
theorem dd_M_root_0 : decode cd_M_root 0 = .ok (.aload_n 0, 1) := by decide +kernel
theorem dd_M_root_1 : decode cd_M_root 1 = .ok (.iload_n 1, 1) := by decide +kernel
theorem dd_M_root_2 : decode cd_M_root 2 = .ok (.iconst 0, 1) := by decide +kernel
theorem dd_M_root_3 : decode cd_M_root 3 = .ok (.invokevirtual 64, 3) := by decide +kernel
theorem dd_M_root_6 : decode cd_M_root 6 = .ok (.ifCond .eq 7, 3) := by decide +kernel
theorem dd_M_root_9 : decode cd_M_root 9 = .ok (.iconst 0, 1) := by decide +kernel
theorem dd_M_root_10 : decode cd_M_root 10 = .ok (.goto 17, 3) := by decide +kernel
theorem dd_M_root_13 : decode cd_M_root 13 = .ok (.aload_n 0, 1) := by decide +kernel
theorem dd_M_root_14 : decode cd_M_root 14 = .ok (.iload_n 1, 1) := by decide +kernel
theorem dd_M_root_15 : decode cd_M_root 15 = .ok (.iconst 1, 1) := by decide +kernel
theorem dd_M_root_16 : decode cd_M_root 16 = .ok (.invokevirtual 64, 3) := by decide +kernel
theorem dd_M_root_19 : decode cd_M_root 19 = .ok (.ifCond .eq 7, 3) := by decide +kernel
theorem dd_M_root_22 : decode cd_M_root 22 = .ok (.iconst 1, 1) := by decide +kernel
theorem dd_M_root_23 : decode cd_M_root 23 = .ok (.goto 4, 3) := by decide +kernel
theorem dd_M_root_26 : decode cd_M_root 26 = .ok (.iconst 2, 1) := by decide +kernel
theorem dd_M_root_27 : decode cd_M_root 27 = .ok (.ireturn, 1) := by decide +kernel
theorem dd_M_live_0 : decode cd_M_live 0 = .ok (.aload_n 0, 1) := by decide +kernel
theorem dd_M_live_1 : decode cd_M_live 1 = .ok (.getfield 29, 3) := by decide +kernel
theorem dd_M_live_4 : decode cd_M_live 4 = .ok (.iload_n 1, 1) := by decide +kernel
theorem dd_M_live_5 : decode cd_M_live 5 = .ok (.iaload, 1) := by decide +kernel
theorem dd_M_live_6 : decode cd_M_live 6 = .ok (.iconst 3, 1) := by decide +kernel
theorem dd_M_live_7 : decode cd_M_live 7 = .ok (.if_icmp .eq 13, 3) := by decide +kernel
theorem dd_M_live_10 : decode cd_M_live 10 = .ok (.aload_n 0, 1) := by decide +kernel
theorem dd_M_live_11 : decode cd_M_live 11 = .ok (.getfield 29, 3) := by decide +kernel
theorem dd_M_live_14 : decode cd_M_live 14 = .ok (.iload_n 1, 1) := by decide +kernel
theorem dd_M_live_15 : decode cd_M_live 15 = .ok (.iaload, 1) := by decide +kernel
theorem dd_M_live_16 : decode cd_M_live 16 = .ok (.iconst 4, 1) := by decide +kernel
theorem dd_M_live_17 : decode cd_M_live 17 = .ok (.if_icmp .ne 7, 3) := by decide +kernel
theorem dd_M_live_20 : decode cd_M_live 20 = .ok (.iconst 1, 1) := by decide +kernel
theorem dd_M_live_21 : decode cd_M_live 21 = .ok (.goto 4, 3) := by decide +kernel
theorem dd_M_live_24 : decode cd_M_live 24 = .ok (.iconst 0, 1) := by decide +kernel
theorem dd_M_live_25 : decode cd_M_live 25 = .ok (.ireturn, 1) := by decide +kernel
theorem dd_M_passing_0 : decode cd_M_passing 0 = .ok (.iconst 0, 1) := by decide +kernel
theorem dd_M_passing_1 : decode cd_M_passing 1 = .ok (.istore_n 2, 1) := by decide +kernel
theorem dd_M_passing_2 : decode cd_M_passing 2 = .ok (.iconst 0, 1) := by decide +kernel
theorem dd_M_passing_3 : decode cd_M_passing 3 = .ok (.istore_n 3, 1) := by decide +kernel
theorem dd_M_passing_4 : decode cd_M_passing 4 = .ok (.iload_n 3, 1) := by decide +kernel
theorem dd_M_passing_5 : decode cd_M_passing 5 = .ok (.aload_n 0, 1) := by decide +kernel
theorem dd_M_passing_6 : decode cd_M_passing 6 = .ok (.getfield 61, 3) := by decide +kernel
theorem dd_M_passing_9 : decode cd_M_passing 9 = .ok (.if_icmp .ge 35, 3) := by decide +kernel
theorem dd_M_passing_12 : decode cd_M_passing 12 = .ok (.aload_n 0, 1) := by decide +kernel
theorem dd_M_passing_13 : decode cd_M_passing 13 = .ok (.iload_n 3, 1) := by decide +kernel
theorem dd_M_passing_14 : decode cd_M_passing 14 = .ok (.invokevirtual 68, 3) := by decide +kernel
theorem dd_M_passing_17 : decode cd_M_passing 17 = .ok (.ifCond .eq 21, 3) := by decide +kernel
theorem dd_M_passing_20 : decode cd_M_passing 20 = .ok (.aload_n 0, 1) := by decide +kernel
theorem dd_M_passing_21 : decode cd_M_passing 21 = .ok (.aload_n 0, 1) := by decide +kernel
theorem dd_M_passing_22 : decode cd_M_passing 22 = .ok (.getfield 26, 3) := by decide +kernel
theorem dd_M_passing_25 : decode cd_M_passing 25 = .ok (.iload_n 3, 1) := by decide +kernel
theorem dd_M_passing_26 : decode cd_M_passing 26 = .ok (.iaload, 1) := by decide +kernel
theorem dd_M_passing_27 : decode cd_M_passing 27 = .ok (.iload_n 1, 1) := by decide +kernel
theorem dd_M_passing_28 : decode cd_M_passing 28 = .ok (.invokevirtual 64, 3) := by decide +kernel
theorem dd_M_passing_31 : decode cd_M_passing 31 = .ok (.ifCond .eq 7, 3) := by decide +kernel
theorem dd_M_passing_34 : decode cd_M_passing 34 = .ok (.iload_n 2, 1) := by decide +kernel
theorem dd_M_passing_35 : decode cd_M_passing 35 = .ok (.iconst 1, 1) := by decide +kernel
theorem dd_M_passing_36 : decode cd_M_passing 36 = .ok (.iadd, 1) := by decide +kernel
theorem dd_M_passing_37 : decode cd_M_passing 37 = .ok (.istore_n 2, 1) := by decide +kernel
theorem dd_M_passing_38 : decode cd_M_passing 38 = .ok (.iinc 3 1, 3) := by decide +kernel
theorem dd_M_passing_41 : decode cd_M_passing 41 = .ok (.goto (-37), 3) := by decide +kernel
theorem dd_M_passing_44 : decode cd_M_passing 44 = .ok (.iload_n 2, 1) := by decide +kernel
theorem dd_M_passing_45 : decode cd_M_passing 45 = .ok (.ireturn, 1) := by decide +kernel
theorem dd_M_workersInUse_0 : decode cd_M_workersInUse 0 = .ok (.iconst 0, 1) := by decide +kernel
theorem dd_M_workersInUse_1 : decode cd_M_workersInUse 1 = .ok (.istore_n 1, 1) := by decide +kernel
theorem dd_M_workersInUse_2 : decode cd_M_workersInUse 2 = .ok (.iconst 0, 1) := by decide +kernel
theorem dd_M_workersInUse_3 : decode cd_M_workersInUse 3 = .ok (.istore_n 2, 1) := by decide +kernel
theorem dd_M_workersInUse_4 : decode cd_M_workersInUse 4 = .ok (.iload_n 2, 1) := by decide +kernel
theorem dd_M_workersInUse_5 : decode cd_M_workersInUse 5 = .ok (.aload_n 0, 1) := by decide +kernel
theorem dd_M_workersInUse_6 : decode cd_M_workersInUse 6 = .ok (.getfield 61, 3) := by decide +kernel
theorem dd_M_workersInUse_9 : decode cd_M_workersInUse 9 = .ok (.if_icmp .ge 30, 3) := by decide +kernel
theorem dd_M_workersInUse_12 : decode cd_M_workersInUse 12 = .ok (.aload_n 0, 1) := by decide +kernel
theorem dd_M_workersInUse_13 : decode cd_M_workersInUse 13 = .ok (.iload_n 2, 1) := by decide +kernel
theorem dd_M_workersInUse_14 : decode cd_M_workersInUse 14 = .ok (.invokevirtual 68, 3) := by decide +kernel
theorem dd_M_workersInUse_17 : decode cd_M_workersInUse 17 = .ok (.ifCond .eq 16, 3) := by decide +kernel
theorem dd_M_workersInUse_20 : decode cd_M_workersInUse 20 = .ok (.aload_n 0, 1) := by decide +kernel
theorem dd_M_workersInUse_21 : decode cd_M_workersInUse 21 = .ok (.getfield 32, 3) := by decide +kernel
theorem dd_M_workersInUse_24 : decode cd_M_workersInUse 24 = .ok (.iload_n 2, 1) := by decide +kernel
theorem dd_M_workersInUse_25 : decode cd_M_workersInUse 25 = .ok (.iaload, 1) := by decide +kernel
theorem dd_M_workersInUse_26 : decode cd_M_workersInUse 26 = .ok (.ifCond .ge 7, 3) := by decide +kernel
theorem dd_M_workersInUse_29 : decode cd_M_workersInUse 29 = .ok (.iload_n 1, 1) := by decide +kernel
theorem dd_M_workersInUse_30 : decode cd_M_workersInUse 30 = .ok (.iconst 1, 1) := by decide +kernel
theorem dd_M_workersInUse_31 : decode cd_M_workersInUse 31 = .ok (.iadd, 1) := by decide +kernel
theorem dd_M_workersInUse_32 : decode cd_M_workersInUse 32 = .ok (.istore_n 1, 1) := by decide +kernel
theorem dd_M_workersInUse_33 : decode cd_M_workersInUse 33 = .ok (.iinc 2 1, 3) := by decide +kernel
theorem dd_M_workersInUse_36 : decode cd_M_workersInUse 36 = .ok (.goto (-32), 3) := by decide +kernel
theorem dd_M_workersInUse_39 : decode cd_M_workersInUse 39 = .ok (.iload_n 1, 1) := by decide +kernel
theorem dd_M_workersInUse_40 : decode cd_M_workersInUse 40 = .ok (.ireturn, 1) := by decide +kernel
theorem dd_M_oldest_0 : decode cd_M_oldest 0 = .ok (.iconst (-1), 1) := by decide +kernel
theorem dd_M_oldest_1 : decode cd_M_oldest 1 = .ok (.istore_n 2, 1) := by decide +kernel
theorem dd_M_oldest_2 : decode cd_M_oldest 2 = .ok (.iconst 0, 1) := by decide +kernel
theorem dd_M_oldest_3 : decode cd_M_oldest 3 = .ok (.istore_n 3, 1) := by decide +kernel
theorem dd_M_oldest_4 : decode cd_M_oldest 4 = .ok (.iload_n 3, 1) := by decide +kernel
theorem dd_M_oldest_5 : decode cd_M_oldest 5 = .ok (.aload_n 0, 1) := by decide +kernel
theorem dd_M_oldest_6 : decode cd_M_oldest 6 = .ok (.getfield 61, 3) := by decide +kernel
theorem dd_M_oldest_9 : decode cd_M_oldest 9 = .ok (.if_icmp .ge 50, 3) := by decide +kernel
theorem dd_M_oldest_12 : decode cd_M_oldest 12 = .ok (.aload_n 0, 1) := by decide +kernel
theorem dd_M_oldest_13 : decode cd_M_oldest 13 = .ok (.getfield 29, 3) := by decide +kernel
theorem dd_M_oldest_16 : decode cd_M_oldest 16 = .ok (.iload_n 3, 1) := by decide +kernel
theorem dd_M_oldest_17 : decode cd_M_oldest 17 = .ok (.iaload, 1) := by decide +kernel
theorem dd_M_oldest_18 : decode cd_M_oldest 18 = .ok (.iconst 2, 1) := by decide +kernel
theorem dd_M_oldest_19 : decode cd_M_oldest 19 = .ok (.if_icmp .ne 34, 3) := by decide +kernel
theorem dd_M_oldest_22 : decode cd_M_oldest 22 = .ok (.aload_n 0, 1) := by decide +kernel
theorem dd_M_oldest_23 : decode cd_M_oldest 23 = .ok (.getfield 26, 3) := by decide +kernel
theorem dd_M_oldest_26 : decode cd_M_oldest 26 = .ok (.iload_n 3, 1) := by decide +kernel
theorem dd_M_oldest_27 : decode cd_M_oldest 27 = .ok (.iaload, 1) := by decide +kernel
theorem dd_M_oldest_28 : decode cd_M_oldest 28 = .ok (.iload_n 1, 1) := by decide +kernel
theorem dd_M_oldest_29 : decode cd_M_oldest 29 = .ok (.if_icmp .ne 24, 3) := by decide +kernel
theorem dd_M_oldest_32 : decode cd_M_oldest 32 = .ok (.iload_n 2, 1) := by decide +kernel
theorem dd_M_oldest_33 : decode cd_M_oldest 33 = .ok (.ifCond .lt 18, 3) := by decide +kernel
theorem dd_M_oldest_36 : decode cd_M_oldest 36 = .ok (.aload_n 0, 1) := by decide +kernel
theorem dd_M_oldest_37 : decode cd_M_oldest 37 = .ok (.getfield 41, 3) := by decide +kernel
theorem dd_M_oldest_40 : decode cd_M_oldest 40 = .ok (.iload_n 3, 1) := by decide +kernel
theorem dd_M_oldest_41 : decode cd_M_oldest 41 = .ok (.iaload, 1) := by decide +kernel
theorem dd_M_oldest_42 : decode cd_M_oldest 42 = .ok (.aload_n 0, 1) := by decide +kernel
theorem dd_M_oldest_43 : decode cd_M_oldest 43 = .ok (.getfield 41, 3) := by decide +kernel
theorem dd_M_oldest_46 : decode cd_M_oldest 46 = .ok (.iload_n 2, 1) := by decide +kernel
theorem dd_M_oldest_47 : decode cd_M_oldest 47 = .ok (.iaload, 1) := by decide +kernel
theorem dd_M_oldest_48 : decode cd_M_oldest 48 = .ok (.if_icmp .ge 5, 3) := by decide +kernel
theorem dd_M_oldest_51 : decode cd_M_oldest 51 = .ok (.iload_n 3, 1) := by decide +kernel
theorem dd_M_oldest_52 : decode cd_M_oldest 52 = .ok (.istore_n 2, 1) := by decide +kernel
theorem dd_M_oldest_53 : decode cd_M_oldest 53 = .ok (.iinc 3 1, 3) := by decide +kernel
theorem dd_M_oldest_56 : decode cd_M_oldest 56 = .ok (.goto (-52), 3) := by decide +kernel
theorem dd_M_oldest_59 : decode cd_M_oldest 59 = .ok (.iload_n 2, 1) := by decide +kernel
theorem dd_M_oldest_60 : decode cd_M_oldest 60 = .ok (.ireturn, 1) := by decide +kernel
theorem dd_M_barrierRuns_0 : decode cd_M_barrierRuns 0 = .ok (.iconst 0, 1) := by decide +kernel
theorem dd_M_barrierRuns_1 : decode cd_M_barrierRuns 1 = .ok (.istore_n 2, 1) := by decide +kernel
theorem dd_M_barrierRuns_2 : decode cd_M_barrierRuns 2 = .ok (.iload_n 2, 1) := by decide +kernel
theorem dd_M_barrierRuns_3 : decode cd_M_barrierRuns 3 = .ok (.aload_n 0, 1) := by decide +kernel
theorem dd_M_barrierRuns_4 : decode cd_M_barrierRuns 4 = .ok (.getfield 61, 3) := by decide +kernel
theorem dd_M_barrierRuns_7 : decode cd_M_barrierRuns 7 = .ok (.if_icmp .ge 38, 3) := by decide +kernel
theorem dd_M_barrierRuns_10 : decode cd_M_barrierRuns 10 = .ok (.aload_n 0, 1) := by decide +kernel
theorem dd_M_barrierRuns_11 : decode cd_M_barrierRuns 11 = .ok (.iload_n 2, 1) := by decide +kernel
theorem dd_M_barrierRuns_12 : decode cd_M_barrierRuns 12 = .ok (.invokevirtual 68, 3) := by decide +kernel
theorem dd_M_barrierRuns_15 : decode cd_M_barrierRuns 15 = .ok (.ifCond .eq 24, 3) := by decide +kernel
theorem dd_M_barrierRuns_18 : decode cd_M_barrierRuns 18 = .ok (.aload_n 0, 1) := by decide +kernel
theorem dd_M_barrierRuns_19 : decode cd_M_barrierRuns 19 = .ok (.getfield 48, 3) := by decide +kernel
theorem dd_M_barrierRuns_22 : decode cd_M_barrierRuns 22 = .ok (.iload_n 2, 1) := by decide +kernel
theorem dd_M_barrierRuns_23 : decode cd_M_barrierRuns 23 = .ok (.baload, 1) := by decide +kernel
theorem dd_M_barrierRuns_24 : decode cd_M_barrierRuns 24 = .ok (.ifCond .eq 15, 3) := by decide +kernel
theorem dd_M_barrierRuns_27 : decode cd_M_barrierRuns 27 = .ok (.aload_n 0, 1) := by decide +kernel
theorem dd_M_barrierRuns_28 : decode cd_M_barrierRuns 28 = .ok (.getfield 26, 3) := by decide +kernel
theorem dd_M_barrierRuns_31 : decode cd_M_barrierRuns 31 = .ok (.iload_n 2, 1) := by decide +kernel
theorem dd_M_barrierRuns_32 : decode cd_M_barrierRuns 32 = .ok (.iaload, 1) := by decide +kernel
theorem dd_M_barrierRuns_33 : decode cd_M_barrierRuns 33 = .ok (.iload_n 1, 1) := by decide +kernel
theorem dd_M_barrierRuns_34 : decode cd_M_barrierRuns 34 = .ok (.if_icmp .ne 5, 3) := by decide +kernel
theorem dd_M_barrierRuns_37 : decode cd_M_barrierRuns 37 = .ok (.iconst 1, 1) := by decide +kernel
theorem dd_M_barrierRuns_38 : decode cd_M_barrierRuns 38 = .ok (.ireturn, 1) := by decide +kernel
theorem dd_M_barrierRuns_39 : decode cd_M_barrierRuns 39 = .ok (.iinc 2 1, 3) := by decide +kernel
theorem dd_M_barrierRuns_42 : decode cd_M_barrierRuns 42 = .ok (.goto (-40), 3) := by decide +kernel
theorem dd_M_barrierRuns_45 : decode cd_M_barrierRuns 45 = .ok (.iconst 0, 1) := by decide +kernel
theorem dd_M_barrierRuns_46 : decode cd_M_barrierRuns 46 = .ok (.ireturn, 1) := by decide +kernel
theorem dd_M_lets_0 : decode cd_M_lets 0 = .ok (.iload_n 1, 1) := by decide +kernel
theorem dd_M_lets_1 : decode cd_M_lets 1 = .ok (.iconst 3, 1) := by decide +kernel
theorem dd_M_lets_2 : decode cd_M_lets 2 = .ok (.if_icmp .lt 28, 3) := by decide +kernel
theorem dd_M_lets_5 : decode cd_M_lets 5 = .ok (.aload_n 0, 1) := by decide +kernel
theorem dd_M_lets_6 : decode cd_M_lets 6 = .ok (.getfield 20, 3) := by decide +kernel
theorem dd_M_lets_9 : decode cd_M_lets 9 = .ok (.iload_n 1, 1) := by decide +kernel
theorem dd_M_lets_10 : decode cd_M_lets 10 = .ok (.iaload, 1) := by decide +kernel
theorem dd_M_lets_11 : decode cd_M_lets 11 = .ok (.ifCond .gt 17, 3) := by decide +kernel
theorem dd_M_lets_14 : decode cd_M_lets 14 = .ok (.aload_n 0, 1) := by decide +kernel
theorem dd_M_lets_15 : decode cd_M_lets 15 = .ok (.iload_n 1, 1) := by decide +kernel
theorem dd_M_lets_16 : decode cd_M_lets 16 = .ok (.invokevirtual 72, 3) := by decide +kernel
theorem dd_M_lets_19 : decode cd_M_lets 19 = .ok (.aload_n 0, 1) := by decide +kernel
theorem dd_M_lets_20 : decode cd_M_lets 20 = .ok (.getfield 17, 3) := by decide +kernel
theorem dd_M_lets_23 : decode cd_M_lets 23 = .ok (.iload_n 1, 1) := by decide +kernel
theorem dd_M_lets_24 : decode cd_M_lets 24 = .ok (.iaload, 1) := by decide +kernel
theorem dd_M_lets_25 : decode cd_M_lets 25 = .ok (.if_icmp .lt 5, 3) := by decide +kernel
theorem dd_M_lets_28 : decode cd_M_lets 28 = .ok (.iconst 0, 1) := by decide +kernel
theorem dd_M_lets_29 : decode cd_M_lets 29 = .ok (.ireturn, 1) := by decide +kernel
theorem dd_M_lets_30 : decode cd_M_lets 30 = .ok (.aload_n 0, 1) := by decide +kernel
theorem dd_M_lets_31 : decode cd_M_lets 31 = .ok (.iload_n 1, 1) := by decide +kernel
theorem dd_M_lets_32 : decode cd_M_lets 32 = .ok (.invokevirtual 76, 3) := by decide +kernel
theorem dd_M_lets_35 : decode cd_M_lets 35 = .ok (.ifCond .eq 5, 3) := by decide +kernel
theorem dd_M_lets_38 : decode cd_M_lets 38 = .ok (.iconst 0, 1) := by decide +kernel
theorem dd_M_lets_39 : decode cd_M_lets 39 = .ok (.ireturn, 1) := by decide +kernel
theorem dd_M_lets_40 : decode cd_M_lets 40 = .ok (.iload_n 1, 1) := by decide +kernel
theorem dd_M_lets_41 : decode cd_M_lets 41 = .ok (.aload_n 0, 1) := by decide +kernel
theorem dd_M_lets_42 : decode cd_M_lets 42 = .ok (.getfield 26, 3) := by decide +kernel
theorem dd_M_lets_45 : decode cd_M_lets 45 = .ok (.iload_n 2, 1) := by decide +kernel
theorem dd_M_lets_46 : decode cd_M_lets 46 = .ok (.iaload, 1) := by decide +kernel
theorem dd_M_lets_47 : decode cd_M_lets 47 = .ok (.if_icmp .ne 7, 3) := by decide +kernel
theorem dd_M_lets_50 : decode cd_M_lets 50 = .ok (.iconst (-1), 1) := by decide +kernel
theorem dd_M_lets_51 : decode cd_M_lets 51 = .ok (.goto 8, 3) := by decide +kernel
theorem dd_M_lets_54 : decode cd_M_lets 54 = .ok (.aload_n 0, 1) := by decide +kernel
theorem dd_M_lets_55 : decode cd_M_lets 55 = .ok (.iload_n 1, 1) := by decide +kernel
theorem dd_M_lets_56 : decode cd_M_lets 56 = .ok (.invokevirtual 79, 3) := by decide +kernel
theorem dd_M_lets_59 : decode cd_M_lets 59 = .ok (.istore_n 3, 1) := by decide +kernel
theorem dd_M_lets_60 : decode cd_M_lets 60 = .ok (.iload_n 3, 1) := by decide +kernel
theorem dd_M_lets_61 : decode cd_M_lets 61 = .ok (.ifCond .lt 12, 3) := by decide +kernel
theorem dd_M_lets_64 : decode cd_M_lets 64 = .ok (.aload_n 0, 1) := by decide +kernel
theorem dd_M_lets_65 : decode cd_M_lets 65 = .ok (.getfield 48, 3) := by decide +kernel
theorem dd_M_lets_68 : decode cd_M_lets 68 = .ok (.iload_n 3, 1) := by decide +kernel
theorem dd_M_lets_69 : decode cd_M_lets 69 = .ok (.baload, 1) := by decide +kernel
theorem dd_M_lets_70 : decode cd_M_lets 70 = .ok (.ifCond .ne 7, 3) := by decide +kernel
theorem dd_M_lets_73 : decode cd_M_lets 73 = .ok (.iconst 1, 1) := by decide +kernel
theorem dd_M_lets_74 : decode cd_M_lets 74 = .ok (.goto 4, 3) := by decide +kernel
theorem dd_M_lets_77 : decode cd_M_lets 77 = .ok (.iconst 0, 1) := by decide +kernel
theorem dd_M_lets_78 : decode cd_M_lets 78 = .ok (.ireturn, 1) := by decide +kernel
theorem dd_M_mayStart_0 : decode cd_M_mayStart 0 = .ok (.aload_n 0, 1) := by decide +kernel
theorem dd_M_mayStart_1 : decode cd_M_mayStart 1 = .ok (.getfield 29, 3) := by decide +kernel
theorem dd_M_mayStart_4 : decode cd_M_mayStart 4 = .ok (.iload_n 1, 1) := by decide +kernel
theorem dd_M_mayStart_5 : decode cd_M_mayStart 5 = .ok (.iaload, 1) := by decide +kernel
theorem dd_M_mayStart_6 : decode cd_M_mayStart 6 = .ok (.iconst 2, 1) := by decide +kernel
theorem dd_M_mayStart_7 : decode cd_M_mayStart 7 = .ok (.if_icmp .ne 17, 3) := by decide +kernel
theorem dd_M_mayStart_10 : decode cd_M_mayStart 10 = .ok (.aload_n 0, 1) := by decide +kernel
theorem dd_M_mayStart_11 : decode cd_M_mayStart 11 = .ok (.aload_n 0, 1) := by decide +kernel
theorem dd_M_mayStart_12 : decode cd_M_mayStart 12 = .ok (.getfield 26, 3) := by decide +kernel
theorem dd_M_mayStart_15 : decode cd_M_mayStart 15 = .ok (.iload_n 1, 1) := by decide +kernel
theorem dd_M_mayStart_16 : decode cd_M_mayStart 16 = .ok (.iaload, 1) := by decide +kernel
end
section
/-! Part 02: decode rows of the reference. -/
theorem dd_M_mayStart_17 : decode cd_M_mayStart 17 = .ok (.invokevirtual 79, 3) := by decide +kernel
theorem dd_M_mayStart_20 : decode cd_M_mayStart 20 = .ok (.iload_n 1, 1) := by decide +kernel
theorem dd_M_mayStart_21 : decode cd_M_mayStart 21 = .ok (.if_icmp .eq 5, 3) := by decide +kernel
theorem dd_M_mayStart_24 : decode cd_M_mayStart 24 = .ok (.iconst 0, 1) := by decide +kernel
theorem dd_M_mayStart_25 : decode cd_M_mayStart 25 = .ok (.ireturn, 1) := by decide +kernel
theorem dd_M_mayStart_26 : decode cd_M_mayStart 26 = .ok (.aload_n 0, 1) := by decide +kernel
theorem dd_M_mayStart_27 : decode cd_M_mayStart 27 = .ok (.getfield 48, 3) := by decide +kernel
theorem dd_M_mayStart_30 : decode cd_M_mayStart 30 = .ok (.iload_n 1, 1) := by decide +kernel
theorem dd_M_mayStart_31 : decode cd_M_mayStart 31 = .ok (.baload, 1) := by decide +kernel
theorem dd_M_mayStart_32 : decode cd_M_mayStart 32 = .ok (.ifCond .eq 18, 3) := by decide +kernel
theorem dd_M_mayStart_35 : decode cd_M_mayStart 35 = .ok (.aload_n 0, 1) := by decide +kernel
theorem dd_M_mayStart_36 : decode cd_M_mayStart 36 = .ok (.aload_n 0, 1) := by decide +kernel
theorem dd_M_mayStart_37 : decode cd_M_mayStart 37 = .ok (.getfield 26, 3) := by decide +kernel
theorem dd_M_mayStart_40 : decode cd_M_mayStart 40 = .ok (.iload_n 1, 1) := by decide +kernel
theorem dd_M_mayStart_41 : decode cd_M_mayStart 41 = .ok (.iaload, 1) := by decide +kernel
theorem dd_M_mayStart_42 : decode cd_M_mayStart 42 = .ok (.invokevirtual 72, 3) := by decide +kernel
theorem dd_M_mayStart_45 : decode cd_M_mayStart 45 = .ok (.ifCond .le 5, 3) := by decide +kernel
theorem dd_M_mayStart_48 : decode cd_M_mayStart 48 = .ok (.iconst 0, 1) := by decide +kernel
theorem dd_M_mayStart_49 : decode cd_M_mayStart 49 = .ok (.ireturn, 1) := by decide +kernel
theorem dd_M_mayStart_50 : decode cd_M_mayStart 50 = .ok (.aload_n 0, 1) := by decide +kernel
theorem dd_M_mayStart_51 : decode cd_M_mayStart 51 = .ok (.getfield 52, 3) := by decide +kernel
theorem dd_M_mayStart_54 : decode cd_M_mayStart 54 = .ok (.iload_n 1, 1) := by decide +kernel
theorem dd_M_mayStart_55 : decode cd_M_mayStart 55 = .ok (.baload, 1) := by decide +kernel
theorem dd_M_mayStart_56 : decode cd_M_mayStart 56 = .ok (.ifCond .ne 25, 3) := by decide +kernel
theorem dd_M_mayStart_59 : decode cd_M_mayStart 59 = .ok (.aload_n 0, 1) := by decide +kernel
theorem dd_M_mayStart_60 : decode cd_M_mayStart 60 = .ok (.getfield 32, 3) := by decide +kernel
theorem dd_M_mayStart_63 : decode cd_M_mayStart 63 = .ok (.iload_n 1, 1) := by decide +kernel
theorem dd_M_mayStart_64 : decode cd_M_mayStart 64 = .ok (.iaload, 1) := by decide +kernel
theorem dd_M_mayStart_65 : decode cd_M_mayStart 65 = .ok (.ifCond .ge 16, 3) := by decide +kernel
theorem dd_M_mayStart_68 : decode cd_M_mayStart 68 = .ok (.aload_n 0, 1) := by decide +kernel
theorem dd_M_mayStart_69 : decode cd_M_mayStart 69 = .ok (.invokevirtual 82, 3) := by decide +kernel
theorem dd_M_mayStart_72 : decode cd_M_mayStart 72 = .ok (.aload_n 0, 1) := by decide +kernel
theorem dd_M_mayStart_73 : decode cd_M_mayStart 73 = .ok (.getfield 58, 3) := by decide +kernel
theorem dd_M_mayStart_76 : decode cd_M_mayStart 76 = .ok (.if_icmp .lt 5, 3) := by decide +kernel
theorem dd_M_mayStart_79 : decode cd_M_mayStart 79 = .ok (.iconst 0, 1) := by decide +kernel
theorem dd_M_mayStart_80 : decode cd_M_mayStart 80 = .ok (.ireturn, 1) := by decide +kernel
theorem dd_M_mayStart_81 : decode cd_M_mayStart 81 = .ok (.iconst 0, 1) := by decide +kernel
theorem dd_M_mayStart_82 : decode cd_M_mayStart 82 = .ok (.istore_n 2, 1) := by decide +kernel
theorem dd_M_mayStart_83 : decode cd_M_mayStart 83 = .ok (.iload_n 2, 1) := by decide +kernel
theorem dd_M_mayStart_84 : decode cd_M_mayStart 84 = .ok (.aload_n 0, 1) := by decide +kernel
theorem dd_M_mayStart_85 : decode cd_M_mayStart 85 = .ok (.getfield 7, 3) := by decide +kernel
theorem dd_M_mayStart_88 : decode cd_M_mayStart 88 = .ok (.if_icmp .ge 34, 3) := by decide +kernel
theorem dd_M_mayStart_91 : decode cd_M_mayStart 91 = .ok (.aload_n 0, 1) := by decide +kernel
theorem dd_M_mayStart_92 : decode cd_M_mayStart 92 = .ok (.aload_n 0, 1) := by decide +kernel
theorem dd_M_mayStart_93 : decode cd_M_mayStart 93 = .ok (.getfield 26, 3) := by decide +kernel
theorem dd_M_mayStart_96 : decode cd_M_mayStart 96 = .ok (.iload_n 1, 1) := by decide +kernel
theorem dd_M_mayStart_97 : decode cd_M_mayStart 97 = .ok (.iaload, 1) := by decide +kernel
theorem dd_M_mayStart_98 : decode cd_M_mayStart 98 = .ok (.iload_n 2, 1) := by decide +kernel
theorem dd_M_mayStart_99 : decode cd_M_mayStart 99 = .ok (.invokevirtual 64, 3) := by decide +kernel
theorem dd_M_mayStart_102 : decode cd_M_mayStart 102 = .ok (.ifCond .eq 14, 3) := by decide +kernel
theorem dd_M_mayStart_105 : decode cd_M_mayStart 105 = .ok (.aload_n 0, 1) := by decide +kernel
theorem dd_M_mayStart_106 : decode cd_M_mayStart 106 = .ok (.iload_n 2, 1) := by decide +kernel
theorem dd_M_mayStart_107 : decode cd_M_mayStart 107 = .ok (.iload_n 1, 1) := by decide +kernel
theorem dd_M_mayStart_108 : decode cd_M_mayStart 108 = .ok (.invokevirtual 86, 3) := by decide +kernel
theorem dd_M_mayStart_111 : decode cd_M_mayStart 111 = .ok (.ifCond .ne 5, 3) := by decide +kernel
theorem dd_M_mayStart_114 : decode cd_M_mayStart 114 = .ok (.iconst 0, 1) := by decide +kernel
theorem dd_M_mayStart_115 : decode cd_M_mayStart 115 = .ok (.ireturn, 1) := by decide +kernel
theorem dd_M_mayStart_116 : decode cd_M_mayStart 116 = .ok (.iinc 2 1, 3) := by decide +kernel
theorem dd_M_mayStart_119 : decode cd_M_mayStart 119 = .ok (.goto (-36), 3) := by decide +kernel
theorem dd_M_mayStart_122 : decode cd_M_mayStart 122 = .ok (.iconst 1, 1) := by decide +kernel
theorem dd_M_mayStart_123 : decode cd_M_mayStart 123 = .ok (.ireturn, 1) := by decide +kernel
theorem dd_M_countOf_0 : decode cd_M_countOf 0 = .ok (.aload_n 0, 1) := by decide +kernel
theorem dd_M_countOf_1 : decode cd_M_countOf 1 = .ok (.getfield 55, 3) := by decide +kernel
theorem dd_M_countOf_4 : decode cd_M_countOf 4 = .ok (.iload_n 1, 1) := by decide +kernel
theorem dd_M_countOf_5 : decode cd_M_countOf 5 = .ok (.iaload, 1) := by decide +kernel
theorem dd_M_countOf_6 : decode cd_M_countOf 6 = .ok (.istore_n 2, 1) := by decide +kernel
theorem dd_M_countOf_7 : decode cd_M_countOf 7 = .ok (.iconst 0, 1) := by decide +kernel
theorem dd_M_countOf_8 : decode cd_M_countOf 8 = .ok (.istore_n 3, 1) := by decide +kernel
theorem dd_M_countOf_9 : decode cd_M_countOf 9 = .ok (.iload_n 3, 1) := by decide +kernel
theorem dd_M_countOf_10 : decode cd_M_countOf 10 = .ok (.aload_n 0, 1) := by decide +kernel
theorem dd_M_countOf_11 : decode cd_M_countOf 11 = .ok (.getfield 61, 3) := by decide +kernel
theorem dd_M_countOf_14 : decode cd_M_countOf 14 = .ok (.if_icmp .ge 33, 3) := by decide +kernel
theorem dd_M_countOf_17 : decode cd_M_countOf 17 = .ok (.aload_n 0, 1) := by decide +kernel
theorem dd_M_countOf_18 : decode cd_M_countOf 18 = .ok (.getfield 35, 3) := by decide +kernel
theorem dd_M_countOf_21 : decode cd_M_countOf 21 = .ok (.iload_n 3, 1) := by decide +kernel
theorem dd_M_countOf_22 : decode cd_M_countOf 22 = .ok (.iaload, 1) := by decide +kernel
theorem dd_M_countOf_23 : decode cd_M_countOf 23 = .ok (.iload_n 1, 1) := by decide +kernel
theorem dd_M_countOf_24 : decode cd_M_countOf 24 = .ok (.if_icmp .ne 17, 3) := by decide +kernel
theorem dd_M_countOf_27 : decode cd_M_countOf 27 = .ok (.aload_n 0, 1) := by decide +kernel
theorem dd_M_countOf_28 : decode cd_M_countOf 28 = .ok (.getfield 29, 3) := by decide +kernel
theorem dd_M_countOf_31 : decode cd_M_countOf 31 = .ok (.iload_n 3, 1) := by decide +kernel
theorem dd_M_countOf_32 : decode cd_M_countOf 32 = .ok (.iaload, 1) := by decide +kernel
theorem dd_M_countOf_33 : decode cd_M_countOf 33 = .ok (.iconst 5, 1) := by decide +kernel
theorem dd_M_countOf_34 : decode cd_M_countOf 34 = .ok (.if_icmp .ge 7, 3) := by decide +kernel
theorem dd_M_countOf_37 : decode cd_M_countOf 37 = .ok (.iload_n 2, 1) := by decide +kernel
theorem dd_M_countOf_38 : decode cd_M_countOf 38 = .ok (.iconst 1, 1) := by decide +kernel
theorem dd_M_countOf_39 : decode cd_M_countOf 39 = .ok (.iadd, 1) := by decide +kernel
theorem dd_M_countOf_40 : decode cd_M_countOf 40 = .ok (.istore_n 2, 1) := by decide +kernel
theorem dd_M_countOf_41 : decode cd_M_countOf 41 = .ok (.iinc 3 1, 3) := by decide +kernel
theorem dd_M_countOf_44 : decode cd_M_countOf 44 = .ok (.goto (-35), 3) := by decide +kernel
theorem dd_M_countOf_47 : decode cd_M_countOf 47 = .ok (.iload_n 2, 1) := by decide +kernel
theorem dd_M_countOf_48 : decode cd_M_countOf 48 = .ok (.ireturn, 1) := by decide +kernel
theorem dd_M_accept_0 : decode cd_M_accept 0 = .ok (.aload_n 0, 1) := by decide +kernel
theorem dd_M_accept_1 : decode cd_M_accept 1 = .ok (.getfield 61, 3) := by decide +kernel
theorem dd_M_accept_4 : decode cd_M_accept 4 = .ok (.istore_n 3, 1) := by decide +kernel
theorem dd_M_accept_5 : decode cd_M_accept 5 = .ok (.aload_n 0, 1) := by decide +kernel
theorem dd_M_accept_6 : decode cd_M_accept 6 = .ok (.aload_n 0, 1) := by decide +kernel
theorem dd_M_accept_7 : decode cd_M_accept 7 = .ok (.getfield 61, 3) := by decide +kernel
theorem dd_M_accept_10 : decode cd_M_accept 10 = .ok (.iconst 1, 1) := by decide +kernel
theorem dd_M_accept_11 : decode cd_M_accept 11 = .ok (.iadd, 1) := by decide +kernel
theorem dd_M_accept_12 : decode cd_M_accept 12 = .ok (.putfield 61, 3) := by decide +kernel
theorem dd_M_accept_15 : decode cd_M_accept 15 = .ok (.aload_n 0, 1) := by decide +kernel
theorem dd_M_accept_16 : decode cd_M_accept 16 = .ok (.getfield 26, 3) := by decide +kernel
theorem dd_M_accept_19 : decode cd_M_accept 19 = .ok (.iload_n 3, 1) := by decide +kernel
theorem dd_M_accept_20 : decode cd_M_accept 20 = .ok (.iload_n 1, 1) := by decide +kernel
theorem dd_M_accept_21 : decode cd_M_accept 21 = .ok (.iastore, 1) := by decide +kernel
theorem dd_M_accept_22 : decode cd_M_accept 22 = .ok (.aload_n 0, 1) := by decide +kernel
theorem dd_M_accept_23 : decode cd_M_accept 23 = .ok (.getfield 29, 3) := by decide +kernel
theorem dd_M_accept_26 : decode cd_M_accept 26 = .ok (.iload_n 3, 1) := by decide +kernel
theorem dd_M_accept_27 : decode cd_M_accept 27 = .ok (.iconst 1, 1) := by decide +kernel
theorem dd_M_accept_28 : decode cd_M_accept 28 = .ok (.iastore, 1) := by decide +kernel
theorem dd_M_accept_29 : decode cd_M_accept 29 = .ok (.aload_n 0, 1) := by decide +kernel
theorem dd_M_accept_30 : decode cd_M_accept 30 = .ok (.getfield 32, 3) := by decide +kernel
theorem dd_M_accept_33 : decode cd_M_accept 33 = .ok (.iload_n 3, 1) := by decide +kernel
theorem dd_M_accept_34 : decode cd_M_accept 34 = .ok (.iconst (-1), 1) := by decide +kernel
theorem dd_M_accept_35 : decode cd_M_accept 35 = .ok (.iastore, 1) := by decide +kernel
theorem dd_M_accept_36 : decode cd_M_accept 36 = .ok (.aload_n 0, 1) := by decide +kernel
theorem dd_M_accept_37 : decode cd_M_accept 37 = .ok (.getfield 35, 3) := by decide +kernel
theorem dd_M_accept_40 : decode cd_M_accept 40 = .ok (.iload_n 3, 1) := by decide +kernel
theorem dd_M_accept_41 : decode cd_M_accept 41 = .ok (.iconst (-1), 1) := by decide +kernel
theorem dd_M_accept_42 : decode cd_M_accept 42 = .ok (.iastore, 1) := by decide +kernel
theorem dd_M_accept_43 : decode cd_M_accept 43 = .ok (.aload_n 0, 1) := by decide +kernel
theorem dd_M_accept_44 : decode cd_M_accept 44 = .ok (.getfield 38, 3) := by decide +kernel
theorem dd_M_accept_47 : decode cd_M_accept 47 = .ok (.iload_n 3, 1) := by decide +kernel
theorem dd_M_accept_48 : decode cd_M_accept 48 = .ok (.iconst (-1), 1) := by decide +kernel
theorem dd_M_accept_49 : decode cd_M_accept 49 = .ok (.iastore, 1) := by decide +kernel
theorem dd_M_accept_50 : decode cd_M_accept 50 = .ok (.aload_n 0, 1) := by decide +kernel
theorem dd_M_accept_51 : decode cd_M_accept 51 = .ok (.getfield 48, 3) := by decide +kernel
theorem dd_M_accept_54 : decode cd_M_accept 54 = .ok (.iload_n 3, 1) := by decide +kernel
theorem dd_M_accept_55 : decode cd_M_accept 55 = .ok (.iload_n 2, 1) := by decide +kernel
theorem dd_M_accept_56 : decode cd_M_accept 56 = .ok (.ifCond .eq 12, 3) := by decide +kernel
theorem dd_M_accept_59 : decode cd_M_accept 59 = .ok (.iload_n 1, 1) := by decide +kernel
theorem dd_M_accept_60 : decode cd_M_accept 60 = .ok (.iconst 3, 1) := by decide +kernel
theorem dd_M_accept_61 : decode cd_M_accept 61 = .ok (.if_icmp .lt 7, 3) := by decide +kernel
theorem dd_M_accept_64 : decode cd_M_accept 64 = .ok (.iconst 1, 1) := by decide +kernel
theorem dd_M_accept_65 : decode cd_M_accept 65 = .ok (.goto 4, 3) := by decide +kernel
theorem dd_M_accept_68 : decode cd_M_accept 68 = .ok (.iconst 0, 1) := by decide +kernel
theorem dd_M_accept_69 : decode cd_M_accept 69 = .ok (.bastore, 1) := by decide +kernel
theorem dd_M_accept_70 : decode cd_M_accept 70 = .ok (.iload_n 3, 1) := by decide +kernel
theorem dd_M_accept_71 : decode cd_M_accept 71 = .ok (.ireturn, 1) := by decide +kernel
theorem dd_M_line_0 : decode cd_M_line 0 = .ok (.aload_n 0, 1) := by decide +kernel
theorem dd_M_line_1 : decode cd_M_line 1 = .ok (.getfield 29, 3) := by decide +kernel
theorem dd_M_line_4 : decode cd_M_line 4 = .ok (.iload_n 1, 1) := by decide +kernel
theorem dd_M_line_5 : decode cd_M_line 5 = .ok (.iconst 2, 1) := by decide +kernel
theorem dd_M_line_6 : decode cd_M_line 6 = .ok (.iastore, 1) := by decide +kernel
theorem dd_M_line_7 : decode cd_M_line 7 = .ok (.aload_n 0, 1) := by decide +kernel
theorem dd_M_line_8 : decode cd_M_line 8 = .ok (.getfield 41, 3) := by decide +kernel
theorem dd_M_line_11 : decode cd_M_line 11 = .ok (.iload_n 1, 1) := by decide +kernel
theorem dd_M_line_12 : decode cd_M_line 12 = .ok (.aload_n 0, 1) := by decide +kernel
theorem dd_M_line_13 : decode cd_M_line 13 = .ok (.getfield 89, 3) := by decide +kernel
theorem dd_M_line_16 : decode cd_M_line 16 = .ok (.iastore, 1) := by decide +kernel
theorem dd_M_line_17 : decode cd_M_line 17 = .ok (.aload_n 0, 1) := by decide +kernel
theorem dd_M_line_18 : decode cd_M_line 18 = .ok (.aload_n 0, 1) := by decide +kernel
theorem dd_M_line_19 : decode cd_M_line 19 = .ok (.getfield 89, 3) := by decide +kernel
theorem dd_M_line_22 : decode cd_M_line 22 = .ok (.iconst 1, 1) := by decide +kernel
theorem dd_M_line_23 : decode cd_M_line 23 = .ok (.iadd, 1) := by decide +kernel
theorem dd_M_line_24 : decode cd_M_line 24 = .ok (.putfield 89, 3) := by decide +kernel
theorem dd_M_line_27 : decode cd_M_line 27 = .ok (.return_, 1) := by decide +kernel
theorem dd_M_release_0 : decode cd_M_release 0 = .ok (.aload_n 0, 1) := by decide +kernel
theorem dd_M_release_1 : decode cd_M_release 1 = .ok (.iload_n 1, 1) := by decide +kernel
theorem dd_M_release_2 : decode cd_M_release 2 = .ok (.invokevirtual 92, 3) := by decide +kernel
theorem dd_M_release_5 : decode cd_M_release 5 = .ok (.ifCond .le 4, 3) := by decide +kernel
theorem dd_M_release_8 : decode cd_M_release 8 = .ok (.return_, 1) := by decide +kernel
theorem dd_M_release_9 : decode cd_M_release 9 = .ok (.iconst 0, 1) := by decide +kernel
theorem dd_M_release_10 : decode cd_M_release 10 = .ok (.istore_n 2, 1) := by decide +kernel
theorem dd_M_release_11 : decode cd_M_release 11 = .ok (.iload_n 2, 1) := by decide +kernel
theorem dd_M_release_12 : decode cd_M_release 12 = .ok (.aload_n 0, 1) := by decide +kernel
theorem dd_M_release_13 : decode cd_M_release 13 = .ok (.getfield 61, 3) := by decide +kernel
theorem dd_M_release_16 : decode cd_M_release 16 = .ok (.if_icmp .ge 33, 3) := by decide +kernel
theorem dd_M_release_19 : decode cd_M_release 19 = .ok (.aload_n 0, 1) := by decide +kernel
theorem dd_M_release_20 : decode cd_M_release 20 = .ok (.getfield 29, 3) := by decide +kernel
theorem dd_M_release_23 : decode cd_M_release 23 = .ok (.iload_n 2, 1) := by decide +kernel
theorem dd_M_release_24 : decode cd_M_release 24 = .ok (.iaload, 1) := by decide +kernel
theorem dd_M_release_25 : decode cd_M_release 25 = .ok (.ifCond .ne 18, 3) := by decide +kernel
theorem dd_M_release_28 : decode cd_M_release 28 = .ok (.aload_n 0, 1) := by decide +kernel
theorem dd_M_release_29 : decode cd_M_release 29 = .ok (.getfield 38, 3) := by decide +kernel
theorem dd_M_release_32 : decode cd_M_release 32 = .ok (.iload_n 2, 1) := by decide +kernel
theorem dd_M_release_33 : decode cd_M_release 33 = .ok (.iaload, 1) := by decide +kernel
theorem dd_M_release_34 : decode cd_M_release 34 = .ok (.iload_n 1, 1) := by decide +kernel
theorem dd_M_release_35 : decode cd_M_release 35 = .ok (.if_icmp .ne 8, 3) := by decide +kernel
theorem dd_M_release_38 : decode cd_M_release 38 = .ok (.aload_n 0, 1) := by decide +kernel
theorem dd_M_release_39 : decode cd_M_release 39 = .ok (.iload_n 2, 1) := by decide +kernel
theorem dd_M_release_40 : decode cd_M_release 40 = .ok (.invokevirtual 95, 3) := by decide +kernel
theorem dd_M_release_43 : decode cd_M_release 43 = .ok (.iinc 2 1, 3) := by decide +kernel
theorem dd_M_release_46 : decode cd_M_release 46 = .ok (.goto (-35), 3) := by decide +kernel
theorem dd_M_release_49 : decode cd_M_release 49 = .ok (.return_, 1) := by decide +kernel
theorem dd_M_end_0 : decode cd_M_end 0 = .ok (.aload_n 0, 1) := by decide +kernel
theorem dd_M_end_1 : decode cd_M_end 1 = .ok (.getfield 29, 3) := by decide +kernel
theorem dd_M_end_4 : decode cd_M_end 4 = .ok (.iload_n 1, 1) := by decide +kernel
theorem dd_M_end_5 : decode cd_M_end 5 = .ok (.iload_n 2, 1) := by decide +kernel
theorem dd_M_end_6 : decode cd_M_end 6 = .ok (.iastore, 1) := by decide +kernel
theorem dd_M_end_7 : decode cd_M_end 7 = .ok (.aload_n 0, 1) := by decide +kernel
theorem dd_M_end_8 : decode cd_M_end 8 = .ok (.getfield 32, 3) := by decide +kernel
theorem dd_M_end_11 : decode cd_M_end 11 = .ok (.iload_n 1, 1) := by decide +kernel
theorem dd_M_end_12 : decode cd_M_end 12 = .ok (.iaload, 1) := by decide +kernel
theorem dd_M_end_13 : decode cd_M_end 13 = .ok (.ifCond .lt 15, 3) := by decide +kernel
theorem dd_M_end_16 : decode cd_M_end 16 = .ok (.aload_n 0, 1) := by decide +kernel
theorem dd_M_end_17 : decode cd_M_end 17 = .ok (.getfield 29, 3) := by decide +kernel
theorem dd_M_end_20 : decode cd_M_end 20 = .ok (.aload_n 0, 1) := by decide +kernel
theorem dd_M_end_21 : decode cd_M_end 21 = .ok (.getfield 32, 3) := by decide +kernel
theorem dd_M_end_24 : decode cd_M_end 24 = .ok (.iload_n 1, 1) := by decide +kernel
theorem dd_M_end_25 : decode cd_M_end 25 = .ok (.iaload, 1) := by decide +kernel
theorem dd_M_end_26 : decode cd_M_end 26 = .ok (.iconst 3, 1) := by decide +kernel
theorem dd_M_end_27 : decode cd_M_end 27 = .ok (.iastore, 1) := by decide +kernel
theorem dd_M_end_28 : decode cd_M_end 28 = .ok (.aload_n 0, 1) := by decide +kernel
theorem dd_M_end_29 : decode cd_M_end 29 = .ok (.getfield 35, 3) := by decide +kernel
theorem dd_M_end_32 : decode cd_M_end 32 = .ok (.iload_n 1, 1) := by decide +kernel
theorem dd_M_end_33 : decode cd_M_end 33 = .ok (.iaload, 1) := by decide +kernel
theorem dd_M_end_34 : decode cd_M_end 34 = .ok (.ifCond .lt 13, 3) := by decide +kernel
theorem dd_M_end_37 : decode cd_M_end 37 = .ok (.aload_n 0, 1) := by decide +kernel
theorem dd_M_end_38 : decode cd_M_end 38 = .ok (.aload_n 0, 1) := by decide +kernel
theorem dd_M_end_39 : decode cd_M_end 39 = .ok (.getfield 35, 3) := by decide +kernel
theorem dd_M_end_42 : decode cd_M_end 42 = .ok (.iload_n 1, 1) := by decide +kernel
theorem dd_M_end_43 : decode cd_M_end 43 = .ok (.iaload, 1) := by decide +kernel
theorem dd_M_end_44 : decode cd_M_end 44 = .ok (.invokevirtual 99, 3) := by decide +kernel
theorem dd_M_end_47 : decode cd_M_end 47 = .ok (.return_, 1) := by decide +kernel
theorem dd_M_queue_0 : decode cd_M_queue 0 = .ok (.aload_n 0, 1) := by decide +kernel
theorem dd_M_queue_1 : decode cd_M_queue 1 = .ok (.iload_n 1, 1) := by decide +kernel
theorem dd_M_queue_2 : decode cd_M_queue 2 = .ok (.invokevirtual 102, 3) := by decide +kernel
theorem dd_M_queue_5 : decode cd_M_queue 5 = .ok (.ifCond .ne 5, 3) := by decide +kernel
theorem dd_M_queue_8 : decode cd_M_queue 8 = .ok (.iconst (-1), 1) := by decide +kernel
theorem dd_M_queue_9 : decode cd_M_queue 9 = .ok (.ireturn, 1) := by decide +kernel
theorem dd_M_queue_10 : decode cd_M_queue 10 = .ok (.iload_n 2, 1) := by decide +kernel
theorem dd_M_queue_11 : decode cd_M_queue 11 = .ok (.iconst 1, 1) := by decide +kernel
theorem dd_M_queue_12 : decode cd_M_queue 12 = .ok (.if_icmp .lt 9, 3) := by decide +kernel
theorem dd_M_queue_15 : decode cd_M_queue 15 = .ok (.iload_n 2, 1) := by decide +kernel
theorem dd_M_queue_16 : decode cd_M_queue 16 = .ok (.bipush 8, 2) := by decide +kernel
theorem dd_M_queue_18 : decode cd_M_queue 18 = .ok (.if_icmp .le 6, 3) := by decide +kernel
theorem dd_M_queue_21 : decode cd_M_queue 21 = .ok (.bipush (-9), 2) := by decide +kernel
theorem dd_M_queue_23 : decode cd_M_queue 23 = .ok (.ireturn, 1) := by decide +kernel
theorem dd_M_queue_24 : decode cd_M_queue 24 = .ok (.aload_n 0, 1) := by decide +kernel
theorem dd_M_queue_25 : decode cd_M_queue 25 = .ok (.getfield 7, 3) := by decide +kernel
theorem dd_M_queue_28 : decode cd_M_queue 28 = .ok (.bipush 12, 2) := by decide +kernel
theorem dd_M_queue_30 : decode cd_M_queue 30 = .ok (.if_icmp .ne 6, 3) := by decide +kernel
theorem dd_M_queue_33 : decode cd_M_queue 33 = .ok (.bipush (-4), 2) := by decide +kernel
theorem dd_M_queue_35 : decode cd_M_queue 35 = .ok (.ireturn, 1) := by decide +kernel
theorem dd_M_queue_36 : decode cd_M_queue 36 = .ok (.aload_n 0, 1) := by decide +kernel
theorem dd_M_queue_37 : decode cd_M_queue 37 = .ok (.getfield 13, 3) := by decide +kernel
theorem dd_M_queue_40 : decode cd_M_queue 40 = .ok (.aload_n 0, 1) := by decide +kernel
theorem dd_M_queue_41 : decode cd_M_queue 41 = .ok (.getfield 7, 3) := by decide +kernel
theorem dd_M_queue_44 : decode cd_M_queue 44 = .ok (.iload_n 1, 1) := by decide +kernel
theorem dd_M_queue_45 : decode cd_M_queue 45 = .ok (.iastore, 1) := by decide +kernel
theorem dd_M_queue_46 : decode cd_M_queue 46 = .ok (.aload_n 0, 1) := by decide +kernel
theorem dd_M_queue_47 : decode cd_M_queue 47 = .ok (.getfield 17, 3) := by decide +kernel
theorem dd_M_queue_50 : decode cd_M_queue 50 = .ok (.aload_n 0, 1) := by decide +kernel
theorem dd_M_queue_51 : decode cd_M_queue 51 = .ok (.getfield 7, 3) := by decide +kernel
theorem dd_M_queue_54 : decode cd_M_queue 54 = .ok (.iload_n 2, 1) := by decide +kernel
theorem dd_M_queue_55 : decode cd_M_queue 55 = .ok (.iastore, 1) := by decide +kernel
theorem dd_M_queue_56 : decode cd_M_queue 56 = .ok (.aload_n 0, 1) := by decide +kernel
theorem dd_M_queue_57 : decode cd_M_queue 57 = .ok (.aload_n 0, 1) := by decide +kernel
theorem dd_M_queue_58 : decode cd_M_queue 58 = .ok (.getfield 7, 3) := by decide +kernel
theorem dd_M_queue_61 : decode cd_M_queue 61 = .ok (.iconst 1, 1) := by decide +kernel
theorem dd_M_queue_62 : decode cd_M_queue 62 = .ok (.iadd, 1) := by decide +kernel
theorem dd_M_queue_63 : decode cd_M_queue 63 = .ok (.putfield 7, 3) := by decide +kernel
theorem dd_M_queue_66 : decode cd_M_queue 66 = .ok (.aload_n 0, 1) := by decide +kernel
theorem dd_M_queue_67 : decode cd_M_queue 67 = .ok (.getfield 7, 3) := by decide +kernel
theorem dd_M_queue_70 : decode cd_M_queue 70 = .ok (.iconst 1, 1) := by decide +kernel
theorem dd_M_queue_71 : decode cd_M_queue 71 = .ok (.isub, 1) := by decide +kernel
theorem dd_M_queue_72 : decode cd_M_queue 72 = .ok (.ireturn, 1) := by decide +kernel
theorem dd_M_retarget_0 : decode cd_M_retarget 0 = .ok (.aload_n 0, 1) := by decide +kernel
theorem dd_M_retarget_1 : decode cd_M_retarget 1 = .ok (.iload_n 1, 1) := by decide +kernel
theorem dd_M_retarget_2 : decode cd_M_retarget 2 = .ok (.invokevirtual 102, 3) := by decide +kernel
theorem dd_M_retarget_5 : decode cd_M_retarget 5 = .ok (.ifCond .eq 16, 3) := by decide +kernel
theorem dd_M_retarget_8 : decode cd_M_retarget 8 = .ok (.iload_n 1, 1) := by decide +kernel
theorem dd_M_retarget_9 : decode cd_M_retarget 9 = .ok (.iconst 3, 1) := by decide +kernel
theorem dd_M_retarget_10 : decode cd_M_retarget 10 = .ok (.if_icmp .lt 11, 3) := by decide +kernel
theorem dd_M_retarget_13 : decode cd_M_retarget 13 = .ok (.aload_n 0, 1) := by decide +kernel
theorem dd_M_retarget_14 : decode cd_M_retarget 14 = .ok (.iload_n 2, 1) := by decide +kernel
theorem dd_M_retarget_15 : decode cd_M_retarget 15 = .ok (.invokevirtual 102, 3) := by decide +kernel
theorem dd_M_retarget_18 : decode cd_M_retarget 18 = .ok (.ifCond .ne 5, 3) := by decide +kernel
theorem dd_M_retarget_21 : decode cd_M_retarget 21 = .ok (.iconst (-1), 1) := by decide +kernel
theorem dd_M_retarget_22 : decode cd_M_retarget 22 = .ok (.ireturn, 1) := by decide +kernel
theorem dd_M_retarget_23 : decode cd_M_retarget 23 = .ok (.aload_n 0, 1) := by decide +kernel
theorem dd_M_retarget_24 : decode cd_M_retarget 24 = .ok (.iload_n 2, 1) := by decide +kernel
theorem dd_M_retarget_25 : decode cd_M_retarget 25 = .ok (.iload_n 1, 1) := by decide +kernel
theorem dd_M_retarget_26 : decode cd_M_retarget 26 = .ok (.invokevirtual 64, 3) := by decide +kernel
theorem dd_M_retarget_29 : decode cd_M_retarget 29 = .ok (.ifCond .eq 6, 3) := by decide +kernel
theorem dd_M_retarget_32 : decode cd_M_retarget 32 = .ok (.bipush (-5), 2) := by decide +kernel
theorem dd_M_retarget_34 : decode cd_M_retarget 34 = .ok (.ireturn, 1) := by decide +kernel
theorem dd_M_retarget_35 : decode cd_M_retarget 35 = .ok (.aload_n 0, 1) := by decide +kernel
theorem dd_M_retarget_36 : decode cd_M_retarget 36 = .ok (.iload_n 1, 1) := by decide +kernel
theorem dd_M_retarget_37 : decode cd_M_retarget 37 = .ok (.invokevirtual 72, 3) := by decide +kernel
theorem dd_M_retarget_40 : decode cd_M_retarget 40 = .ok (.ifCond .le 6, 3) := by decide +kernel
theorem dd_M_retarget_43 : decode cd_M_retarget 43 = .ok (.bipush (-6), 2) := by decide +kernel
theorem dd_M_retarget_45 : decode cd_M_retarget 45 = .ok (.ireturn, 1) := by decide +kernel
theorem dd_M_retarget_46 : decode cd_M_retarget 46 = .ok (.aload_n 0, 1) := by decide +kernel
theorem dd_M_retarget_47 : decode cd_M_retarget 47 = .ok (.getfield 13, 3) := by decide +kernel
theorem dd_M_retarget_50 : decode cd_M_retarget 50 = .ok (.iload_n 1, 1) := by decide +kernel
theorem dd_M_retarget_51 : decode cd_M_retarget 51 = .ok (.iload_n 2, 1) := by decide +kernel
theorem dd_M_retarget_52 : decode cd_M_retarget 52 = .ok (.iastore, 1) := by decide +kernel
theorem dd_M_retarget_53 : decode cd_M_retarget 53 = .ok (.iconst 0, 1) := by decide +kernel
theorem dd_M_retarget_54 : decode cd_M_retarget 54 = .ok (.ireturn, 1) := by decide +kernel
theorem dd_M_submit_0 : decode cd_M_submit 0 = .ok (.aload_n 0, 1) := by decide +kernel
theorem dd_M_submit_1 : decode cd_M_submit 1 = .ok (.iload_n 1, 1) := by decide +kernel
theorem dd_M_submit_2 : decode cd_M_submit 2 = .ok (.invokevirtual 102, 3) := by decide +kernel
theorem dd_M_submit_5 : decode cd_M_submit 5 = .ok (.ifCond .ne 5, 3) := by decide +kernel
theorem dd_M_submit_8 : decode cd_M_submit 8 = .ok (.iconst (-1), 1) := by decide +kernel
theorem dd_M_submit_9 : decode cd_M_submit 9 = .ok (.ireturn, 1) := by decide +kernel
theorem dd_M_submit_10 : decode cd_M_submit 10 = .ok (.iload_n 3, 1) := by decide +kernel
theorem dd_M_submit_11 : decode cd_M_submit 11 = .ok (.iconst (-1), 1) := by decide +kernel
theorem dd_M_submit_12 : decode cd_M_submit 12 = .ok (.if_icmp .lt 8, 3) := by decide +kernel
theorem dd_M_submit_15 : decode cd_M_submit 15 = .ok (.iload_n 3, 1) := by decide +kernel
theorem dd_M_submit_16 : decode cd_M_submit 16 = .ok (.iconst 3, 1) := by decide +kernel
theorem dd_M_submit_17 : decode cd_M_submit 17 = .ok (.if_icmp .le 6, 3) := by decide +kernel
theorem dd_M_submit_20 : decode cd_M_submit 20 = .ok (.bipush (-2), 2) := by decide +kernel
theorem dd_M_submit_22 : decode cd_M_submit 22 = .ok (.ireturn, 1) := by decide +kernel
theorem dd_M_submit_23 : decode cd_M_submit 23 = .ok (.aload_n 0, 1) := by decide +kernel
theorem dd_M_submit_24 : decode cd_M_submit 24 = .ok (.getfield 61, 3) := by decide +kernel
theorem dd_M_submit_27 : decode cd_M_submit 27 = .ok (.sipush 160, 3) := by decide +kernel
theorem dd_M_submit_30 : decode cd_M_submit 30 = .ok (.if_icmp .ne 6, 3) := by decide +kernel
theorem dd_M_submit_33 : decode cd_M_submit 33 = .ok (.bipush (-4), 2) := by decide +kernel
theorem dd_M_submit_35 : decode cd_M_submit 35 = .ok (.ireturn, 1) := by decide +kernel
theorem dd_M_submit_36 : decode cd_M_submit 36 = .ok (.aload_n 0, 1) := by decide +kernel
theorem dd_M_submit_37 : decode cd_M_submit 37 = .ok (.iload_n 1, 1) := by decide +kernel
theorem dd_M_submit_38 : decode cd_M_submit 38 = .ok (.iload_n 2, 1) := by decide +kernel
theorem dd_M_submit_39 : decode cd_M_submit 39 = .ok (.invokevirtual 105, 3) := by decide +kernel
theorem dd_M_submit_42 : decode cd_M_submit 42 = .ok (.istore 4, 2) := by decide +kernel
theorem dd_M_submit_44 : decode cd_M_submit 44 = .ok (.aload_n 0, 1) := by decide +kernel
theorem dd_M_submit_45 : decode cd_M_submit 45 = .ok (.getfield 35, 3) := by decide +kernel
theorem dd_M_submit_48 : decode cd_M_submit 48 = .ok (.iload 4, 2) := by decide +kernel
theorem dd_M_submit_50 : decode cd_M_submit 50 = .ok (.iload_n 3, 1) := by decide +kernel
theorem dd_M_submit_51 : decode cd_M_submit 51 = .ok (.iastore, 1) := by decide +kernel
theorem dd_M_submit_52 : decode cd_M_submit 52 = .ok (.aload_n 0, 1) := by decide +kernel
theorem dd_M_submit_53 : decode cd_M_submit 53 = .ok (.iload 4, 2) := by decide +kernel
theorem dd_M_submit_55 : decode cd_M_submit 55 = .ok (.invokevirtual 95, 3) := by decide +kernel
theorem dd_M_submit_58 : decode cd_M_submit 58 = .ok (.iload 4, 2) := by decide +kernel
theorem dd_M_submit_60 : decode cd_M_submit 60 = .ok (.ireturn, 1) := by decide +kernel
theorem dd_M_after_0 : decode cd_M_after 0 = .ok (.aload_n 0, 1) := by decide +kernel
end
section
/-! Part 02: decode rows of the reference. -/
theorem dd_M_after_1 : decode cd_M_after 1 = .ok (.iload_n 1, 1) := by decide +kernel
theorem dd_M_after_2 : decode cd_M_after 2 = .ok (.invokevirtual 102, 3) := by decide +kernel
theorem dd_M_after_5 : decode cd_M_after 5 = .ok (.ifCond .ne 5, 3) := by decide +kernel
theorem dd_M_after_8 : decode cd_M_after 8 = .ok (.iconst (-1), 1) := by decide +kernel
theorem dd_M_after_9 : decode cd_M_after 9 = .ok (.ireturn, 1) := by decide +kernel
theorem dd_M_after_10 : decode cd_M_after 10 = .ok (.aload_n 0, 1) := by decide +kernel
theorem dd_M_after_11 : decode cd_M_after 11 = .ok (.getfield 61, 3) := by decide +kernel
theorem dd_M_after_14 : decode cd_M_after 14 = .ok (.sipush 160, 3) := by decide +kernel
theorem dd_M_after_17 : decode cd_M_after 17 = .ok (.if_icmp .ne 6, 3) := by decide +kernel
theorem dd_M_after_20 : decode cd_M_after 20 = .ok (.bipush (-4), 2) := by decide +kernel
theorem dd_M_after_22 : decode cd_M_after 22 = .ok (.ireturn, 1) := by decide +kernel
theorem dd_M_after_23 : decode cd_M_after 23 = .ok (.aload_n 0, 1) := by decide +kernel
theorem dd_M_after_24 : decode cd_M_after 24 = .ok (.iload_n 1, 1) := by decide +kernel
theorem dd_M_after_25 : decode cd_M_after 25 = .ok (.iconst 0, 1) := by decide +kernel
theorem dd_M_after_26 : decode cd_M_after 26 = .ok (.invokevirtual 105, 3) := by decide +kernel
theorem dd_M_after_29 : decode cd_M_after 29 = .ok (.istore 4, 2) := by decide +kernel
theorem dd_M_after_31 : decode cd_M_after 31 = .ok (.lload_n 2, 1) := by decide +kernel
theorem dd_M_after_32 : decode cd_M_after 32 = .ok (.lconst 0, 1) := by decide +kernel
theorem dd_M_after_33 : decode cd_M_after 33 = .ok (.lcmp, 1) := by decide +kernel
theorem dd_M_after_34 : decode cd_M_after 34 = .ok (.ifCond .gt 12, 3) := by decide +kernel
theorem dd_M_after_37 : decode cd_M_after 37 = .ok (.aload_n 0, 1) := by decide +kernel
theorem dd_M_after_38 : decode cd_M_after 38 = .ok (.iload 4, 2) := by decide +kernel
theorem dd_M_after_40 : decode cd_M_after 40 = .ok (.invokevirtual 95, 3) := by decide +kernel
theorem dd_M_after_43 : decode cd_M_after 43 = .ok (.goto 35, 3) := by decide +kernel
theorem dd_M_after_46 : decode cd_M_after 46 = .ok (.aload_n 0, 1) := by decide +kernel
theorem dd_M_after_47 : decode cd_M_after 47 = .ok (.getfield 44, 3) := by decide +kernel
theorem dd_M_after_50 : decode cd_M_after 50 = .ok (.iload 4, 2) := by decide +kernel
theorem dd_M_after_52 : decode cd_M_after 52 = .ok (.lload_n 2, 1) := by decide +kernel
theorem dd_M_after_53 : decode cd_M_after 53 = .ok (.ldc2_w 109, 3) := by decide +kernel
theorem dd_M_after_56 : decode cd_M_after 56 = .ok (.aload_n 0, 1) := by decide +kernel
theorem dd_M_after_57 : decode cd_M_after 57 = .ok (.getfield 111, 3) := by decide +kernel
theorem dd_M_after_60 : decode cd_M_after 60 = .ok (.lsub, 1) := by decide +kernel
theorem dd_M_after_61 : decode cd_M_after 61 = .ok (.lcmp, 1) := by decide +kernel
theorem dd_M_after_62 : decode cd_M_after 62 = .ok (.ifCond .lt 9, 3) := by decide +kernel
theorem dd_M_after_65 : decode cd_M_after 65 = .ok (.ldc2_w 109, 3) := by decide +kernel
theorem dd_M_after_68 : decode cd_M_after 68 = .ok (.goto 9, 3) := by decide +kernel
theorem dd_M_after_71 : decode cd_M_after 71 = .ok (.aload_n 0, 1) := by decide +kernel
theorem dd_M_after_72 : decode cd_M_after 72 = .ok (.getfield 111, 3) := by decide +kernel
theorem dd_M_after_75 : decode cd_M_after 75 = .ok (.lload_n 2, 1) := by decide +kernel
theorem dd_M_after_76 : decode cd_M_after 76 = .ok (.ladd, 1) := by decide +kernel
theorem dd_M_after_77 : decode cd_M_after 77 = .ok (.lastore, 1) := by decide +kernel
theorem dd_M_after_78 : decode cd_M_after 78 = .ok (.iload 4, 2) := by decide +kernel
theorem dd_M_after_80 : decode cd_M_after 80 = .ok (.ireturn, 1) := by decide +kernel
theorem dd_M_inTheWay_0 : decode cd_M_inTheWay 0 = .ok (.iconst 3, 1) := by decide +kernel
theorem dd_M_inTheWay_1 : decode cd_M_inTheWay 1 = .ok (.istore 4, 2) := by decide +kernel
theorem dd_M_inTheWay_3 : decode cd_M_inTheWay 3 = .ok (.iload 4, 2) := by decide +kernel
theorem dd_M_inTheWay_5 : decode cd_M_inTheWay 5 = .ok (.aload_n 0, 1) := by decide +kernel
theorem dd_M_inTheWay_6 : decode cd_M_inTheWay 6 = .ok (.getfield 7, 3) := by decide +kernel
theorem dd_M_inTheWay_9 : decode cd_M_inTheWay 9 = .ok (.if_icmp .ge 77, 3) := by decide +kernel
theorem dd_M_inTheWay_12 : decode cd_M_inTheWay 12 = .ok (.aload_n 0, 1) := by decide +kernel
theorem dd_M_inTheWay_13 : decode cd_M_inTheWay 13 = .ok (.iload_n 2, 1) := by decide +kernel
theorem dd_M_inTheWay_14 : decode cd_M_inTheWay 14 = .ok (.iload 4, 2) := by decide +kernel
theorem dd_M_inTheWay_16 : decode cd_M_inTheWay 16 = .ok (.invokevirtual 64, 3) := by decide +kernel
theorem dd_M_inTheWay_19 : decode cd_M_inTheWay 19 = .ok (.ifCond .eq 61, 3) := by decide +kernel
theorem dd_M_inTheWay_22 : decode cd_M_inTheWay 22 = .ok (.aload_n 0, 1) := by decide +kernel
theorem dd_M_inTheWay_23 : decode cd_M_inTheWay 23 = .ok (.aload_n 0, 1) := by decide +kernel
theorem dd_M_inTheWay_24 : decode cd_M_inTheWay 24 = .ok (.getfield 26, 3) := by decide +kernel
theorem dd_M_inTheWay_27 : decode cd_M_inTheWay 27 = .ok (.iload_n 1, 1) := by decide +kernel
theorem dd_M_inTheWay_28 : decode cd_M_inTheWay 28 = .ok (.iaload, 1) := by decide +kernel
theorem dd_M_inTheWay_29 : decode cd_M_inTheWay 29 = .ok (.iload 4, 2) := by decide +kernel
theorem dd_M_inTheWay_31 : decode cd_M_inTheWay 31 = .ok (.invokevirtual 64, 3) := by decide +kernel
theorem dd_M_inTheWay_34 : decode cd_M_inTheWay 34 = .ok (.ifCond .eq 46, 3) := by decide +kernel
theorem dd_M_inTheWay_37 : decode cd_M_inTheWay 37 = .ok (.aload_n 0, 1) := by decide +kernel
theorem dd_M_inTheWay_38 : decode cd_M_inTheWay 38 = .ok (.getfield 17, 3) := by decide +kernel
theorem dd_M_inTheWay_41 : decode cd_M_inTheWay 41 = .ok (.iload 4, 2) := by decide +kernel
theorem dd_M_inTheWay_43 : decode cd_M_inTheWay 43 = .ok (.iaload, 1) := by decide +kernel
theorem dd_M_inTheWay_44 : decode cd_M_inTheWay 44 = .ok (.iconst 1, 1) := by decide +kernel
theorem dd_M_inTheWay_45 : decode cd_M_inTheWay 45 = .ok (.if_icmp .eq 33, 3) := by decide +kernel
theorem dd_M_inTheWay_48 : decode cd_M_inTheWay 48 = .ok (.aload_n 0, 1) := by decide +kernel
theorem dd_M_inTheWay_49 : decode cd_M_inTheWay 49 = .ok (.getfield 48, 3) := by decide +kernel
theorem dd_M_inTheWay_52 : decode cd_M_inTheWay 52 = .ok (.iload_n 1, 1) := by decide +kernel
theorem dd_M_inTheWay_53 : decode cd_M_inTheWay 53 = .ok (.baload, 1) := by decide +kernel
theorem dd_M_inTheWay_54 : decode cd_M_inTheWay 54 = .ok (.ifCond .eq 14, 3) := by decide +kernel
theorem dd_M_inTheWay_57 : decode cd_M_inTheWay 57 = .ok (.aload_n 0, 1) := by decide +kernel
theorem dd_M_inTheWay_58 : decode cd_M_inTheWay 58 = .ok (.getfield 26, 3) := by decide +kernel
theorem dd_M_inTheWay_61 : decode cd_M_inTheWay 61 = .ok (.iload_n 1, 1) := by decide +kernel
theorem dd_M_inTheWay_62 : decode cd_M_inTheWay 62 = .ok (.iaload, 1) := by decide +kernel
theorem dd_M_inTheWay_63 : decode cd_M_inTheWay 63 = .ok (.iload 4, 2) := by decide +kernel
theorem dd_M_inTheWay_65 : decode cd_M_inTheWay 65 = .ok (.if_icmp .eq 13, 3) := by decide +kernel
theorem dd_M_inTheWay_68 : decode cd_M_inTheWay 68 = .ok (.iload_n 3, 1) := by decide +kernel
theorem dd_M_inTheWay_69 : decode cd_M_inTheWay 69 = .ok (.ifCond .eq 11, 3) := by decide +kernel
theorem dd_M_inTheWay_72 : decode cd_M_inTheWay 72 = .ok (.iload 4, 2) := by decide +kernel
theorem dd_M_inTheWay_74 : decode cd_M_inTheWay 74 = .ok (.iload_n 2, 1) := by decide +kernel
theorem dd_M_inTheWay_75 : decode cd_M_inTheWay 75 = .ok (.if_icmp .ne 5, 3) := by decide +kernel
theorem dd_M_inTheWay_78 : decode cd_M_inTheWay 78 = .ok (.iconst 1, 1) := by decide +kernel
theorem dd_M_inTheWay_79 : decode cd_M_inTheWay 79 = .ok (.ireturn, 1) := by decide +kernel
theorem dd_M_inTheWay_80 : decode cd_M_inTheWay 80 = .ok (.iinc 4 1, 3) := by decide +kernel
theorem dd_M_inTheWay_83 : decode cd_M_inTheWay 83 = .ok (.goto (-80), 3) := by decide +kernel
theorem dd_M_inTheWay_86 : decode cd_M_inTheWay 86 = .ok (.iconst 0, 1) := by decide +kernel
theorem dd_M_inTheWay_87 : decode cd_M_inTheWay 87 = .ok (.ireturn, 1) := by decide +kernel
theorem dd_M_call_0 : decode cd_M_call 0 = .ok (.aload_n 0, 1) := by decide +kernel
theorem dd_M_call_1 : decode cd_M_call 1 = .ok (.iload_n 1, 1) := by decide +kernel
theorem dd_M_call_2 : decode cd_M_call 2 = .ok (.invokevirtual 115, 3) := by decide +kernel
theorem dd_M_call_5 : decode cd_M_call 5 = .ok (.ifCond .eq 13, 3) := by decide +kernel
theorem dd_M_call_8 : decode cd_M_call 8 = .ok (.aload_n 0, 1) := by decide +kernel
theorem dd_M_call_9 : decode cd_M_call 9 = .ok (.getfield 29, 3) := by decide +kernel
theorem dd_M_call_12 : decode cd_M_call 12 = .ok (.iload_n 1, 1) := by decide +kernel
theorem dd_M_call_13 : decode cd_M_call 13 = .ok (.iaload, 1) := by decide +kernel
theorem dd_M_call_14 : decode cd_M_call 14 = .ok (.iconst 3, 1) := by decide +kernel
theorem dd_M_call_15 : decode cd_M_call 15 = .ok (.if_icmp .eq 6, 3) := by decide +kernel
theorem dd_M_call_18 : decode cd_M_call 18 = .ok (.bipush (-3), 2) := by decide +kernel
theorem dd_M_call_20 : decode cd_M_call 20 = .ok (.ireturn, 1) := by decide +kernel
theorem dd_M_call_21 : decode cd_M_call 21 = .ok (.aload_n 0, 1) := by decide +kernel
theorem dd_M_call_22 : decode cd_M_call 22 = .ok (.iload_n 2, 1) := by decide +kernel
theorem dd_M_call_23 : decode cd_M_call 23 = .ok (.invokevirtual 102, 3) := by decide +kernel
theorem dd_M_call_26 : decode cd_M_call 26 = .ok (.ifCond .ne 5, 3) := by decide +kernel
theorem dd_M_call_29 : decode cd_M_call 29 = .ok (.iconst (-1), 1) := by decide +kernel
theorem dd_M_call_30 : decode cd_M_call 30 = .ok (.ireturn, 1) := by decide +kernel
theorem dd_M_call_31 : decode cd_M_call 31 = .ok (.iload_n 1, 1) := by decide +kernel
theorem dd_M_call_32 : decode cd_M_call 32 = .ok (.istore 4, 2) := by decide +kernel
theorem dd_M_call_34 : decode cd_M_call 34 = .ok (.iconst 0, 1) := by decide +kernel
theorem dd_M_call_35 : decode cd_M_call 35 = .ok (.istore 5, 2) := by decide +kernel
theorem dd_M_call_37 : decode cd_M_call 37 = .ok (.iload 5, 2) := by decide +kernel
theorem dd_M_call_39 : decode cd_M_call 39 = .ok (.sipush 160, 3) := by decide +kernel
theorem dd_M_call_42 : decode cd_M_call 42 = .ok (.if_icmp .ge 37, 3) := by decide +kernel
theorem dd_M_call_45 : decode cd_M_call 45 = .ok (.iload 4, 2) := by decide +kernel
theorem dd_M_call_47 : decode cd_M_call 47 = .ok (.ifCond .lt 32, 3) := by decide +kernel
theorem dd_M_call_50 : decode cd_M_call 50 = .ok (.aload_n 0, 1) := by decide +kernel
theorem dd_M_call_51 : decode cd_M_call 51 = .ok (.iload 4, 2) := by decide +kernel
theorem dd_M_call_53 : decode cd_M_call 53 = .ok (.iload_n 2, 1) := by decide +kernel
theorem dd_M_call_54 : decode cd_M_call 54 = .ok (.iload_n 3, 1) := by decide +kernel
theorem dd_M_call_55 : decode cd_M_call 55 = .ok (.invokevirtual 118, 3) := by decide +kernel
theorem dd_M_call_58 : decode cd_M_call 58 = .ok (.ifCond .eq 6, 3) := by decide +kernel
theorem dd_M_call_61 : decode cd_M_call 61 = .ok (.bipush (-7), 2) := by decide +kernel
theorem dd_M_call_63 : decode cd_M_call 63 = .ok (.ireturn, 1) := by decide +kernel
theorem dd_M_call_64 : decode cd_M_call 64 = .ok (.aload_n 0, 1) := by decide +kernel
theorem dd_M_call_65 : decode cd_M_call 65 = .ok (.getfield 32, 3) := by decide +kernel
theorem dd_M_call_68 : decode cd_M_call 68 = .ok (.iload 4, 2) := by decide +kernel
theorem dd_M_call_70 : decode cd_M_call 70 = .ok (.iaload, 1) := by decide +kernel
theorem dd_M_call_71 : decode cd_M_call 71 = .ok (.istore 4, 2) := by decide +kernel
theorem dd_M_call_73 : decode cd_M_call 73 = .ok (.iinc 5 1, 3) := by decide +kernel
theorem dd_M_call_76 : decode cd_M_call 76 = .ok (.goto (-39), 3) := by decide +kernel
theorem dd_M_call_79 : decode cd_M_call 79 = .ok (.aload_n 0, 1) := by decide +kernel
theorem dd_M_call_80 : decode cd_M_call 80 = .ok (.getfield 61, 3) := by decide +kernel
theorem dd_M_call_83 : decode cd_M_call 83 = .ok (.sipush 160, 3) := by decide +kernel
theorem dd_M_call_86 : decode cd_M_call 86 = .ok (.if_icmp .ne 6, 3) := by decide +kernel
theorem dd_M_call_89 : decode cd_M_call 89 = .ok (.bipush (-4), 2) := by decide +kernel
theorem dd_M_call_91 : decode cd_M_call 91 = .ok (.ireturn, 1) := by decide +kernel
theorem dd_M_call_92 : decode cd_M_call 92 = .ok (.aload_n 0, 1) := by decide +kernel
theorem dd_M_call_93 : decode cd_M_call 93 = .ok (.iload_n 2, 1) := by decide +kernel
theorem dd_M_call_94 : decode cd_M_call 94 = .ok (.iload_n 3, 1) := by decide +kernel
theorem dd_M_call_95 : decode cd_M_call 95 = .ok (.invokevirtual 105, 3) := by decide +kernel
theorem dd_M_call_98 : decode cd_M_call 98 = .ok (.istore 5, 2) := by decide +kernel
theorem dd_M_call_100 : decode cd_M_call 100 = .ok (.aload_n 0, 1) := by decide +kernel
theorem dd_M_call_101 : decode cd_M_call 101 = .ok (.getfield 32, 3) := by decide +kernel
theorem dd_M_call_104 : decode cd_M_call 104 = .ok (.iload 5, 2) := by decide +kernel
theorem dd_M_call_106 : decode cd_M_call 106 = .ok (.iload_n 1, 1) := by decide +kernel
theorem dd_M_call_107 : decode cd_M_call 107 = .ok (.iastore, 1) := by decide +kernel
theorem dd_M_call_108 : decode cd_M_call 108 = .ok (.aload_n 0, 1) := by decide +kernel
theorem dd_M_call_109 : decode cd_M_call 109 = .ok (.getfield 29, 3) := by decide +kernel
theorem dd_M_call_112 : decode cd_M_call 112 = .ok (.iload_n 1, 1) := by decide +kernel
theorem dd_M_call_113 : decode cd_M_call 113 = .ok (.iconst 4, 1) := by decide +kernel
theorem dd_M_call_114 : decode cd_M_call 114 = .ok (.iastore, 1) := by decide +kernel
theorem dd_M_call_115 : decode cd_M_call 115 = .ok (.aload_n 0, 1) := by decide +kernel
theorem dd_M_call_116 : decode cd_M_call 116 = .ok (.iload 5, 2) := by decide +kernel
theorem dd_M_call_118 : decode cd_M_call 118 = .ok (.invokevirtual 95, 3) := by decide +kernel
theorem dd_M_call_121 : decode cd_M_call 121 = .ok (.iload 5, 2) := by decide +kernel
theorem dd_M_call_123 : decode cd_M_call 123 = .ok (.ireturn, 1) := by decide +kernel
theorem dd_M_whenDone_0 : decode cd_M_whenDone 0 = .ok (.iload_n 1, 1) := by decide +kernel
theorem dd_M_whenDone_1 : decode cd_M_whenDone 1 = .ok (.ifCond .lt 8, 3) := by decide +kernel
theorem dd_M_whenDone_4 : decode cd_M_whenDone 4 = .ok (.iload_n 1, 1) := by decide +kernel
theorem dd_M_whenDone_5 : decode cd_M_whenDone 5 = .ok (.iconst 3, 1) := by decide +kernel
theorem dd_M_whenDone_6 : decode cd_M_whenDone 6 = .ok (.if_icmp .le 6, 3) := by decide +kernel
theorem dd_M_whenDone_9 : decode cd_M_whenDone 9 = .ok (.bipush (-2), 2) := by decide +kernel
theorem dd_M_whenDone_11 : decode cd_M_whenDone 11 = .ok (.ireturn, 1) := by decide +kernel
theorem dd_M_whenDone_12 : decode cd_M_whenDone 12 = .ok (.aload_n 0, 1) := by decide +kernel
theorem dd_M_whenDone_13 : decode cd_M_whenDone 13 = .ok (.iload_n 2, 1) := by decide +kernel
theorem dd_M_whenDone_14 : decode cd_M_whenDone 14 = .ok (.invokevirtual 102, 3) := by decide +kernel
theorem dd_M_whenDone_17 : decode cd_M_whenDone 17 = .ok (.ifCond .ne 5, 3) := by decide +kernel
theorem dd_M_whenDone_20 : decode cd_M_whenDone 20 = .ok (.iconst (-1), 1) := by decide +kernel
theorem dd_M_whenDone_21 : decode cd_M_whenDone 21 = .ok (.ireturn, 1) := by decide +kernel
theorem dd_M_whenDone_22 : decode cd_M_whenDone 22 = .ok (.aload_n 0, 1) := by decide +kernel
theorem dd_M_whenDone_23 : decode cd_M_whenDone 23 = .ok (.getfield 61, 3) := by decide +kernel
theorem dd_M_whenDone_26 : decode cd_M_whenDone 26 = .ok (.sipush 160, 3) := by decide +kernel
theorem dd_M_whenDone_29 : decode cd_M_whenDone 29 = .ok (.if_icmp .ne 6, 3) := by decide +kernel
theorem dd_M_whenDone_32 : decode cd_M_whenDone 32 = .ok (.bipush (-4), 2) := by decide +kernel
theorem dd_M_whenDone_34 : decode cd_M_whenDone 34 = .ok (.ireturn, 1) := by decide +kernel
theorem dd_M_whenDone_35 : decode cd_M_whenDone 35 = .ok (.aload_n 0, 1) := by decide +kernel
theorem dd_M_whenDone_36 : decode cd_M_whenDone 36 = .ok (.iload_n 2, 1) := by decide +kernel
theorem dd_M_whenDone_37 : decode cd_M_whenDone 37 = .ok (.iconst 0, 1) := by decide +kernel
theorem dd_M_whenDone_38 : decode cd_M_whenDone 38 = .ok (.invokevirtual 105, 3) := by decide +kernel
theorem dd_M_whenDone_41 : decode cd_M_whenDone 41 = .ok (.istore_n 3, 1) := by decide +kernel
theorem dd_M_whenDone_42 : decode cd_M_whenDone 42 = .ok (.aload_n 0, 1) := by decide +kernel
theorem dd_M_whenDone_43 : decode cd_M_whenDone 43 = .ok (.getfield 38, 3) := by decide +kernel
theorem dd_M_whenDone_46 : decode cd_M_whenDone 46 = .ok (.iload_n 3, 1) := by decide +kernel
theorem dd_M_whenDone_47 : decode cd_M_whenDone 47 = .ok (.iload_n 1, 1) := by decide +kernel
theorem dd_M_whenDone_48 : decode cd_M_whenDone 48 = .ok (.iastore, 1) := by decide +kernel
theorem dd_M_whenDone_49 : decode cd_M_whenDone 49 = .ok (.aload_n 0, 1) := by decide +kernel
theorem dd_M_whenDone_50 : decode cd_M_whenDone 50 = .ok (.iload_n 1, 1) := by decide +kernel
theorem dd_M_whenDone_51 : decode cd_M_whenDone 51 = .ok (.invokevirtual 92, 3) := by decide +kernel
theorem dd_M_whenDone_54 : decode cd_M_whenDone 54 = .ok (.ifCond .ne 11, 3) := by decide +kernel
theorem dd_M_whenDone_57 : decode cd_M_whenDone 57 = .ok (.aload_n 0, 1) := by decide +kernel
theorem dd_M_whenDone_58 : decode cd_M_whenDone 58 = .ok (.iload_n 3, 1) := by decide +kernel
theorem dd_M_whenDone_59 : decode cd_M_whenDone 59 = .ok (.invokevirtual 95, 3) := by decide +kernel
theorem dd_M_whenDone_62 : decode cd_M_whenDone 62 = .ok (.goto 10, 3) := by decide +kernel
theorem dd_M_whenDone_65 : decode cd_M_whenDone 65 = .ok (.aload_n 0, 1) := by decide +kernel
theorem dd_M_whenDone_66 : decode cd_M_whenDone 66 = .ok (.getfield 29, 3) := by decide +kernel
theorem dd_M_whenDone_69 : decode cd_M_whenDone 69 = .ok (.iload_n 3, 1) := by decide +kernel
theorem dd_M_whenDone_70 : decode cd_M_whenDone 70 = .ok (.iconst 0, 1) := by decide +kernel
theorem dd_M_whenDone_71 : decode cd_M_whenDone 71 = .ok (.iastore, 1) := by decide +kernel
theorem dd_M_whenDone_72 : decode cd_M_whenDone 72 = .ok (.iload_n 3, 1) := by decide +kernel
theorem dd_M_whenDone_73 : decode cd_M_whenDone 73 = .ok (.ireturn, 1) := by decide +kernel
theorem dd_M_enter_0 : decode cd_M_enter 0 = .ok (.iload_n 1, 1) := by decide +kernel
theorem dd_M_enter_1 : decode cd_M_enter 1 = .ok (.ifCond .lt 20, 3) := by decide +kernel
theorem dd_M_enter_4 : decode cd_M_enter 4 = .ok (.iload_n 1, 1) := by decide +kernel
theorem dd_M_enter_5 : decode cd_M_enter 5 = .ok (.iconst 3, 1) := by decide +kernel
theorem dd_M_enter_6 : decode cd_M_enter 6 = .ok (.if_icmp .gt 15, 3) := by decide +kernel
theorem dd_M_enter_9 : decode cd_M_enter 9 = .ok (.aload_n 0, 1) := by decide +kernel
theorem dd_M_enter_10 : decode cd_M_enter 10 = .ok (.getfield 55, 3) := by decide +kernel
theorem dd_M_enter_13 : decode cd_M_enter 13 = .ok (.iload_n 1, 1) := by decide +kernel
theorem dd_M_enter_14 : decode cd_M_enter 14 = .ok (.iaload, 1) := by decide +kernel
theorem dd_M_enter_15 : decode cd_M_enter 15 = .ok (.sipush 200, 3) := by decide +kernel
theorem dd_M_enter_18 : decode cd_M_enter 18 = .ok (.if_icmp .lt 5, 3) := by decide +kernel
theorem dd_M_enter_21 : decode cd_M_enter 21 = .ok (.iconst 0, 1) := by decide +kernel
theorem dd_M_enter_22 : decode cd_M_enter 22 = .ok (.ireturn, 1) := by decide +kernel
theorem dd_M_enter_23 : decode cd_M_enter 23 = .ok (.aload_n 0, 1) := by decide +kernel
theorem dd_M_enter_24 : decode cd_M_enter 24 = .ok (.getfield 55, 3) := by decide +kernel
theorem dd_M_enter_27 : decode cd_M_enter 27 = .ok (.iload_n 1, 1) := by decide +kernel
theorem dd_M_enter_28 : decode cd_M_enter 28 = .ok (.aload_n 0, 1) := by decide +kernel
theorem dd_M_enter_29 : decode cd_M_enter 29 = .ok (.getfield 55, 3) := by decide +kernel
theorem dd_M_enter_32 : decode cd_M_enter 32 = .ok (.iload_n 1, 1) := by decide +kernel
theorem dd_M_enter_33 : decode cd_M_enter 33 = .ok (.iaload, 1) := by decide +kernel
theorem dd_M_enter_34 : decode cd_M_enter 34 = .ok (.iconst 1, 1) := by decide +kernel
theorem dd_M_enter_35 : decode cd_M_enter 35 = .ok (.iadd, 1) := by decide +kernel
theorem dd_M_enter_36 : decode cd_M_enter 36 = .ok (.iastore, 1) := by decide +kernel
theorem dd_M_enter_37 : decode cd_M_enter 37 = .ok (.iconst 1, 1) := by decide +kernel
theorem dd_M_enter_38 : decode cd_M_enter 38 = .ok (.ireturn, 1) := by decide +kernel
theorem dd_M_leave_0 : decode cd_M_leave 0 = .ok (.iload_n 1, 1) := by decide +kernel
theorem dd_M_leave_1 : decode cd_M_leave 1 = .ok (.ifCond .lt 17, 3) := by decide +kernel
theorem dd_M_leave_4 : decode cd_M_leave 4 = .ok (.iload_n 1, 1) := by decide +kernel
theorem dd_M_leave_5 : decode cd_M_leave 5 = .ok (.iconst 3, 1) := by decide +kernel
theorem dd_M_leave_6 : decode cd_M_leave 6 = .ok (.if_icmp .gt 12, 3) := by decide +kernel
theorem dd_M_leave_9 : decode cd_M_leave 9 = .ok (.aload_n 0, 1) := by decide +kernel
theorem dd_M_leave_10 : decode cd_M_leave 10 = .ok (.getfield 55, 3) := by decide +kernel
theorem dd_M_leave_13 : decode cd_M_leave 13 = .ok (.iload_n 1, 1) := by decide +kernel
theorem dd_M_leave_14 : decode cd_M_leave 14 = .ok (.iaload, 1) := by decide +kernel
theorem dd_M_leave_15 : decode cd_M_leave 15 = .ok (.ifCond .ne 5, 3) := by decide +kernel
theorem dd_M_leave_18 : decode cd_M_leave 18 = .ok (.iconst 0, 1) := by decide +kernel
theorem dd_M_leave_19 : decode cd_M_leave 19 = .ok (.ireturn, 1) := by decide +kernel
theorem dd_M_leave_20 : decode cd_M_leave 20 = .ok (.aload_n 0, 1) := by decide +kernel
theorem dd_M_leave_21 : decode cd_M_leave 21 = .ok (.getfield 55, 3) := by decide +kernel
theorem dd_M_leave_24 : decode cd_M_leave 24 = .ok (.iload_n 1, 1) := by decide +kernel
theorem dd_M_leave_25 : decode cd_M_leave 25 = .ok (.aload_n 0, 1) := by decide +kernel
theorem dd_M_leave_26 : decode cd_M_leave 26 = .ok (.getfield 55, 3) := by decide +kernel
theorem dd_M_leave_29 : decode cd_M_leave 29 = .ok (.iload_n 1, 1) := by decide +kernel
theorem dd_M_leave_30 : decode cd_M_leave 30 = .ok (.iaload, 1) := by decide +kernel
theorem dd_M_leave_31 : decode cd_M_leave 31 = .ok (.iconst 1, 1) := by decide +kernel
theorem dd_M_leave_32 : decode cd_M_leave 32 = .ok (.isub, 1) := by decide +kernel
theorem dd_M_leave_33 : decode cd_M_leave 33 = .ok (.iastore, 1) := by decide +kernel
theorem dd_M_leave_34 : decode cd_M_leave 34 = .ok (.aload_n 0, 1) := by decide +kernel
theorem dd_M_leave_35 : decode cd_M_leave 35 = .ok (.iload_n 1, 1) := by decide +kernel
theorem dd_M_leave_36 : decode cd_M_leave 36 = .ok (.invokevirtual 99, 3) := by decide +kernel
theorem dd_M_leave_39 : decode cd_M_leave 39 = .ok (.iconst 1, 1) := by decide +kernel
theorem dd_M_leave_40 : decode cd_M_leave 40 = .ok (.ireturn, 1) := by decide +kernel
theorem dd_M_cancel_0 : decode cd_M_cancel 0 = .ok (.aload_n 0, 1) := by decide +kernel
theorem dd_M_cancel_1 : decode cd_M_cancel 1 = .ok (.iload_n 1, 1) := by decide +kernel
theorem dd_M_cancel_2 : decode cd_M_cancel 2 = .ok (.invokevirtual 115, 3) := by decide +kernel
theorem dd_M_cancel_5 : decode cd_M_cancel 5 = .ok (.ifCond .eq 22, 3) := by decide +kernel
theorem dd_M_cancel_8 : decode cd_M_cancel 8 = .ok (.aload_n 0, 1) := by decide +kernel
theorem dd_M_cancel_9 : decode cd_M_cancel 9 = .ok (.getfield 29, 3) := by decide +kernel
theorem dd_M_cancel_12 : decode cd_M_cancel 12 = .ok (.iload_n 1, 1) := by decide +kernel
theorem dd_M_cancel_13 : decode cd_M_cancel 13 = .ok (.iaload, 1) := by decide +kernel
theorem dd_M_cancel_14 : decode cd_M_cancel 14 = .ok (.iconst 2, 1) := by decide +kernel
theorem dd_M_cancel_15 : decode cd_M_cancel 15 = .ok (.if_icmp .gt 12, 3) := by decide +kernel
theorem dd_M_cancel_18 : decode cd_M_cancel 18 = .ok (.aload_n 0, 1) := by decide +kernel
theorem dd_M_cancel_19 : decode cd_M_cancel 19 = .ok (.getfield 52, 3) := by decide +kernel
theorem dd_M_cancel_22 : decode cd_M_cancel 22 = .ok (.iload_n 1, 1) := by decide +kernel
theorem dd_M_cancel_23 : decode cd_M_cancel 23 = .ok (.baload, 1) := by decide +kernel
theorem dd_M_cancel_24 : decode cd_M_cancel 24 = .ok (.ifCond .eq 5, 3) := by decide +kernel
theorem dd_M_cancel_27 : decode cd_M_cancel 27 = .ok (.iconst 0, 1) := by decide +kernel
theorem dd_M_cancel_28 : decode cd_M_cancel 28 = .ok (.ireturn, 1) := by decide +kernel
theorem dd_M_cancel_29 : decode cd_M_cancel 29 = .ok (.aload_n 0, 1) := by decide +kernel
theorem dd_M_cancel_30 : decode cd_M_cancel 30 = .ok (.getfield 52, 3) := by decide +kernel
theorem dd_M_cancel_33 : decode cd_M_cancel 33 = .ok (.iload_n 1, 1) := by decide +kernel
theorem dd_M_cancel_34 : decode cd_M_cancel 34 = .ok (.iconst 1, 1) := by decide +kernel
theorem dd_M_cancel_35 : decode cd_M_cancel 35 = .ok (.bastore, 1) := by decide +kernel
theorem dd_M_cancel_36 : decode cd_M_cancel 36 = .ok (.iconst 1, 1) := by decide +kernel
theorem dd_M_cancel_37 : decode cd_M_cancel 37 = .ok (.ireturn, 1) := by decide +kernel
theorem dd_M_hold_0 : decode cd_M_hold 0 = .ok (.aload_n 0, 1) := by decide +kernel
theorem dd_M_hold_1 : decode cd_M_hold 1 = .ok (.iload_n 1, 1) := by decide +kernel
theorem dd_M_hold_2 : decode cd_M_hold 2 = .ok (.invokevirtual 102, 3) := by decide +kernel
theorem dd_M_hold_5 : decode cd_M_hold 5 = .ok (.ifCond .eq 8, 3) := by decide +kernel
theorem dd_M_hold_8 : decode cd_M_hold 8 = .ok (.iload_n 1, 1) := by decide +kernel
theorem dd_M_hold_9 : decode cd_M_hold 9 = .ok (.iconst 3, 1) := by decide +kernel
theorem dd_M_hold_10 : decode cd_M_hold 10 = .ok (.if_icmp .ge 5, 3) := by decide +kernel
theorem dd_M_hold_13 : decode cd_M_hold 13 = .ok (.iconst (-1), 1) := by decide +kernel
theorem dd_M_hold_14 : decode cd_M_hold 14 = .ok (.ireturn, 1) := by decide +kernel
theorem dd_M_hold_15 : decode cd_M_hold 15 = .ok (.iload_n 2, 1) := by decide +kernel
theorem dd_M_hold_16 : decode cd_M_hold 16 = .ok (.ifCond .eq 17, 3) := by decide +kernel
theorem dd_M_hold_19 : decode cd_M_hold 19 = .ok (.aload_n 0, 1) := by decide +kernel
theorem dd_M_hold_20 : decode cd_M_hold 20 = .ok (.getfield 20, 3) := by decide +kernel
theorem dd_M_hold_23 : decode cd_M_hold 23 = .ok (.iload_n 1, 1) := by decide +kernel
theorem dd_M_hold_24 : decode cd_M_hold 24 = .ok (.iaload, 1) := by decide +kernel
theorem dd_M_hold_25 : decode cd_M_hold 25 = .ok (.bipush 100, 2) := by decide +kernel
theorem dd_M_hold_27 : decode cd_M_hold 27 = .ok (.if_icmp .ne 6, 3) := by decide +kernel
theorem dd_M_hold_30 : decode cd_M_hold 30 = .ok (.bipush (-4), 2) := by decide +kernel
theorem dd_M_hold_32 : decode cd_M_hold 32 = .ok (.ireturn, 1) := by decide +kernel
theorem dd_M_hold_33 : decode cd_M_hold 33 = .ok (.iload_n 2, 1) := by decide +kernel
theorem dd_M_hold_34 : decode cd_M_hold 34 = .ok (.ifCond .ne 15, 3) := by decide +kernel
theorem dd_M_hold_37 : decode cd_M_hold 37 = .ok (.aload_n 0, 1) := by decide +kernel
theorem dd_M_hold_38 : decode cd_M_hold 38 = .ok (.getfield 20, 3) := by decide +kernel
theorem dd_M_hold_41 : decode cd_M_hold 41 = .ok (.iload_n 1, 1) := by decide +kernel
theorem dd_M_hold_42 : decode cd_M_hold 42 = .ok (.iaload, 1) := by decide +kernel
theorem dd_M_hold_43 : decode cd_M_hold 43 = .ok (.ifCond .ne 6, 3) := by decide +kernel
theorem dd_M_hold_46 : decode cd_M_hold 46 = .ok (.bipush (-8), 2) := by decide +kernel
theorem dd_M_hold_48 : decode cd_M_hold 48 = .ok (.ireturn, 1) := by decide +kernel
theorem dd_M_hold_49 : decode cd_M_hold 49 = .ok (.aload_n 0, 1) := by decide +kernel
theorem dd_M_hold_50 : decode cd_M_hold 50 = .ok (.getfield 20, 3) := by decide +kernel
theorem dd_M_hold_53 : decode cd_M_hold 53 = .ok (.iload_n 1, 1) := by decide +kernel
theorem dd_M_hold_54 : decode cd_M_hold 54 = .ok (.iload_n 2, 1) := by decide +kernel
theorem dd_M_hold_55 : decode cd_M_hold 55 = .ok (.ifCond .eq 14, 3) := by decide +kernel
theorem dd_M_hold_58 : decode cd_M_hold 58 = .ok (.aload_n 0, 1) := by decide +kernel
theorem dd_M_hold_59 : decode cd_M_hold 59 = .ok (.getfield 20, 3) := by decide +kernel
theorem dd_M_hold_62 : decode cd_M_hold 62 = .ok (.iload_n 1, 1) := by decide +kernel
theorem dd_M_hold_63 : decode cd_M_hold 63 = .ok (.iaload, 1) := by decide +kernel
theorem dd_M_hold_64 : decode cd_M_hold 64 = .ok (.iconst 1, 1) := by decide +kernel
theorem dd_M_hold_65 : decode cd_M_hold 65 = .ok (.iadd, 1) := by decide +kernel
theorem dd_M_hold_66 : decode cd_M_hold 66 = .ok (.goto 11, 3) := by decide +kernel
theorem dd_M_hold_69 : decode cd_M_hold 69 = .ok (.aload_n 0, 1) := by decide +kernel
theorem dd_M_hold_70 : decode cd_M_hold 70 = .ok (.getfield 20, 3) := by decide +kernel
theorem dd_M_hold_73 : decode cd_M_hold 73 = .ok (.iload_n 1, 1) := by decide +kernel
theorem dd_M_hold_74 : decode cd_M_hold 74 = .ok (.iaload, 1) := by decide +kernel
theorem dd_M_hold_75 : decode cd_M_hold 75 = .ok (.iconst 1, 1) := by decide +kernel
theorem dd_M_hold_76 : decode cd_M_hold 76 = .ok (.isub, 1) := by decide +kernel
theorem dd_M_hold_77 : decode cd_M_hold 77 = .ok (.iastore, 1) := by decide +kernel
theorem dd_M_hold_78 : decode cd_M_hold 78 = .ok (.aload_n 0, 1) := by decide +kernel
theorem dd_M_hold_79 : decode cd_M_hold 79 = .ok (.getfield 20, 3) := by decide +kernel
theorem dd_M_hold_82 : decode cd_M_hold 82 = .ok (.iload_n 1, 1) := by decide +kernel
end
section
/-! Part 02: decode rows of the reference. -/
theorem dd_M_hold_83 : decode cd_M_hold 83 = .ok (.iaload, 1) := by decide +kernel
theorem dd_M_hold_84 : decode cd_M_hold 84 = .ok (.ireturn, 1) := by decide +kernel
theorem dd_M_chosen_0 : decode cd_M_chosen 0 = .ok (.iconst (-1), 1) := by decide +kernel
theorem dd_M_chosen_1 : decode cd_M_chosen 1 = .ok (.istore_n 1, 1) := by decide +kernel
theorem dd_M_chosen_2 : decode cd_M_chosen 2 = .ok (.iconst (-1), 1) := by decide +kernel
theorem dd_M_chosen_3 : decode cd_M_chosen 3 = .ok (.istore_n 2, 1) := by decide +kernel
theorem dd_M_chosen_4 : decode cd_M_chosen 4 = .ok (.iconst 0, 1) := by decide +kernel
theorem dd_M_chosen_5 : decode cd_M_chosen 5 = .ok (.istore_n 3, 1) := by decide +kernel
theorem dd_M_chosen_6 : decode cd_M_chosen 6 = .ok (.iload_n 3, 1) := by decide +kernel
theorem dd_M_chosen_7 : decode cd_M_chosen 7 = .ok (.aload_n 0, 1) := by decide +kernel
theorem dd_M_chosen_8 : decode cd_M_chosen 8 = .ok (.getfield 61, 3) := by decide +kernel
theorem dd_M_chosen_11 : decode cd_M_chosen 11 = .ok (.if_icmp .ge 65, 3) := by decide +kernel
theorem dd_M_chosen_14 : decode cd_M_chosen 14 = .ok (.aload_n 0, 1) := by decide +kernel
theorem dd_M_chosen_15 : decode cd_M_chosen 15 = .ok (.iload_n 3, 1) := by decide +kernel
theorem dd_M_chosen_16 : decode cd_M_chosen 16 = .ok (.invokevirtual 122, 3) := by decide +kernel
theorem dd_M_chosen_19 : decode cd_M_chosen 19 = .ok (.ifCond .eq 51, 3) := by decide +kernel
theorem dd_M_chosen_22 : decode cd_M_chosen 22 = .ok (.aload_n 0, 1) := by decide +kernel
theorem dd_M_chosen_23 : decode cd_M_chosen 23 = .ok (.aload_n 0, 1) := by decide +kernel
theorem dd_M_chosen_24 : decode cd_M_chosen 24 = .ok (.getfield 26, 3) := by decide +kernel
theorem dd_M_chosen_27 : decode cd_M_chosen 27 = .ok (.iload_n 3, 1) := by decide +kernel
theorem dd_M_chosen_28 : decode cd_M_chosen 28 = .ok (.iaload, 1) := by decide +kernel
theorem dd_M_chosen_29 : decode cd_M_chosen 29 = .ok (.invokevirtual 125, 3) := by decide +kernel
theorem dd_M_chosen_32 : decode cd_M_chosen 32 = .ok (.istore 4, 2) := by decide +kernel
theorem dd_M_chosen_34 : decode cd_M_chosen 34 = .ok (.iload_n 1, 1) := by decide +kernel
theorem dd_M_chosen_35 : decode cd_M_chosen 35 = .ok (.ifCond .lt 30, 3) := by decide +kernel
theorem dd_M_chosen_38 : decode cd_M_chosen 38 = .ok (.iload 4, 2) := by decide +kernel
theorem dd_M_chosen_40 : decode cd_M_chosen 40 = .ok (.iload_n 2, 1) := by decide +kernel
theorem dd_M_chosen_41 : decode cd_M_chosen 41 = .ok (.if_icmp .gt 24, 3) := by decide +kernel
theorem dd_M_chosen_44 : decode cd_M_chosen 44 = .ok (.iload 4, 2) := by decide +kernel
theorem dd_M_chosen_46 : decode cd_M_chosen 46 = .ok (.iload_n 2, 1) := by decide +kernel
theorem dd_M_chosen_47 : decode cd_M_chosen 47 = .ok (.if_icmp .ne 23, 3) := by decide +kernel
theorem dd_M_chosen_50 : decode cd_M_chosen 50 = .ok (.aload_n 0, 1) := by decide +kernel
theorem dd_M_chosen_51 : decode cd_M_chosen 51 = .ok (.getfield 41, 3) := by decide +kernel
theorem dd_M_chosen_54 : decode cd_M_chosen 54 = .ok (.iload_n 3, 1) := by decide +kernel
theorem dd_M_chosen_55 : decode cd_M_chosen 55 = .ok (.iaload, 1) := by decide +kernel
theorem dd_M_chosen_56 : decode cd_M_chosen 56 = .ok (.aload_n 0, 1) := by decide +kernel
theorem dd_M_chosen_57 : decode cd_M_chosen 57 = .ok (.getfield 41, 3) := by decide +kernel
theorem dd_M_chosen_60 : decode cd_M_chosen 60 = .ok (.iload_n 1, 1) := by decide +kernel
theorem dd_M_chosen_61 : decode cd_M_chosen 61 = .ok (.iaload, 1) := by decide +kernel
theorem dd_M_chosen_62 : decode cd_M_chosen 62 = .ok (.if_icmp .ge 8, 3) := by decide +kernel
theorem dd_M_chosen_65 : decode cd_M_chosen 65 = .ok (.iload_n 3, 1) := by decide +kernel
theorem dd_M_chosen_66 : decode cd_M_chosen 66 = .ok (.istore_n 1, 1) := by decide +kernel
theorem dd_M_chosen_67 : decode cd_M_chosen 67 = .ok (.iload 4, 2) := by decide +kernel
theorem dd_M_chosen_69 : decode cd_M_chosen 69 = .ok (.istore_n 2, 1) := by decide +kernel
theorem dd_M_chosen_70 : decode cd_M_chosen 70 = .ok (.iinc 3 1, 3) := by decide +kernel
theorem dd_M_chosen_73 : decode cd_M_chosen 73 = .ok (.goto (-67), 3) := by decide +kernel
theorem dd_M_chosen_76 : decode cd_M_chosen 76 = .ok (.iload_n 1, 1) := by decide +kernel
theorem dd_M_chosen_77 : decode cd_M_chosen 77 = .ok (.ireturn, 1) := by decide +kernel
theorem dd_M_begin_0 : decode cd_M_begin 0 = .ok (.aload_n 0, 1) := by decide +kernel
theorem dd_M_begin_1 : decode cd_M_begin 1 = .ok (.invokevirtual 128, 3) := by decide +kernel
theorem dd_M_begin_4 : decode cd_M_begin 4 = .ok (.istore_n 1, 1) := by decide +kernel
theorem dd_M_begin_5 : decode cd_M_begin 5 = .ok (.iconst 0, 1) := by decide +kernel
theorem dd_M_begin_6 : decode cd_M_begin 6 = .ok (.istore_n 2, 1) := by decide +kernel
theorem dd_M_begin_7 : decode cd_M_begin 7 = .ok (.iload_n 2, 1) := by decide +kernel
theorem dd_M_begin_8 : decode cd_M_begin 8 = .ok (.sipush 161, 3) := by decide +kernel
theorem dd_M_begin_11 : decode cd_M_begin 11 = .ok (.if_icmp .ge 34, 3) := by decide +kernel
theorem dd_M_begin_14 : decode cd_M_begin 14 = .ok (.iload_n 1, 1) := by decide +kernel
theorem dd_M_begin_15 : decode cd_M_begin 15 = .ok (.ifCond .lt 30, 3) := by decide +kernel
theorem dd_M_begin_18 : decode cd_M_begin 18 = .ok (.aload_n 0, 1) := by decide +kernel
theorem dd_M_begin_19 : decode cd_M_begin 19 = .ok (.getfield 52, 3) := by decide +kernel
theorem dd_M_begin_22 : decode cd_M_begin 22 = .ok (.iload_n 1, 1) := by decide +kernel
theorem dd_M_begin_23 : decode cd_M_begin 23 = .ok (.baload, 1) := by decide +kernel
theorem dd_M_begin_24 : decode cd_M_begin 24 = .ok (.ifCond .eq 21, 3) := by decide +kernel
theorem dd_M_begin_27 : decode cd_M_begin 27 = .ok (.aload_n 0, 1) := by decide +kernel
theorem dd_M_begin_28 : decode cd_M_begin 28 = .ok (.iload_n 1, 1) := by decide +kernel
theorem dd_M_begin_29 : decode cd_M_begin 29 = .ok (.bipush 6, 2) := by decide +kernel
theorem dd_M_begin_31 : decode cd_M_begin 31 = .ok (.invokevirtual 131, 3) := by decide +kernel
theorem dd_M_begin_34 : decode cd_M_begin 34 = .ok (.aload_n 0, 1) := by decide +kernel
theorem dd_M_begin_35 : decode cd_M_begin 35 = .ok (.invokevirtual 128, 3) := by decide +kernel
theorem dd_M_begin_38 : decode cd_M_begin 38 = .ok (.istore_n 1, 1) := by decide +kernel
theorem dd_M_begin_39 : decode cd_M_begin 39 = .ok (.iinc 2 1, 3) := by decide +kernel
theorem dd_M_begin_42 : decode cd_M_begin 42 = .ok (.goto (-35), 3) := by decide +kernel
theorem dd_M_begin_45 : decode cd_M_begin 45 = .ok (.iload_n 1, 1) := by decide +kernel
theorem dd_M_begin_46 : decode cd_M_begin 46 = .ok (.ifCond .ge 6, 3) := by decide +kernel
theorem dd_M_begin_49 : decode cd_M_begin 49 = .ok (.bipush (-8), 2) := by decide +kernel
theorem dd_M_begin_51 : decode cd_M_begin 51 = .ok (.ireturn, 1) := by decide +kernel
theorem dd_M_begin_52 : decode cd_M_begin 52 = .ok (.aload_n 0, 1) := by decide +kernel
theorem dd_M_begin_53 : decode cd_M_begin 53 = .ok (.getfield 29, 3) := by decide +kernel
theorem dd_M_begin_56 : decode cd_M_begin 56 = .ok (.iload_n 1, 1) := by decide +kernel
theorem dd_M_begin_57 : decode cd_M_begin 57 = .ok (.iconst 3, 1) := by decide +kernel
theorem dd_M_begin_58 : decode cd_M_begin 58 = .ok (.iastore, 1) := by decide +kernel
theorem dd_M_begin_59 : decode cd_M_begin 59 = .ok (.iconst 0, 1) := by decide +kernel
theorem dd_M_begin_60 : decode cd_M_begin 60 = .ok (.istore_n 2, 1) := by decide +kernel
theorem dd_M_begin_61 : decode cd_M_begin 61 = .ok (.iload_n 2, 1) := by decide +kernel
theorem dd_M_begin_62 : decode cd_M_begin 62 = .ok (.aload_n 0, 1) := by decide +kernel
theorem dd_M_begin_63 : decode cd_M_begin 63 = .ok (.getfield 7, 3) := by decide +kernel
theorem dd_M_begin_66 : decode cd_M_begin 66 = .ok (.if_icmp .ge 41, 3) := by decide +kernel
theorem dd_M_begin_69 : decode cd_M_begin 69 = .ok (.aload_n 0, 1) := by decide +kernel
theorem dd_M_begin_70 : decode cd_M_begin 70 = .ok (.iload_n 2, 1) := by decide +kernel
theorem dd_M_begin_71 : decode cd_M_begin 71 = .ok (.invokevirtual 72, 3) := by decide +kernel
theorem dd_M_begin_74 : decode cd_M_begin 74 = .ok (.istore_n 3, 1) := by decide +kernel
theorem dd_M_begin_75 : decode cd_M_begin 75 = .ok (.aload_n 0, 1) := by decide +kernel
theorem dd_M_begin_76 : decode cd_M_begin 76 = .ok (.getfield 23, 3) := by decide +kernel
theorem dd_M_begin_79 : decode cd_M_begin 79 = .ok (.iload_n 2, 1) := by decide +kernel
theorem dd_M_begin_80 : decode cd_M_begin 80 = .ok (.iload_n 3, 1) := by decide +kernel
theorem dd_M_begin_81 : decode cd_M_begin 81 = .ok (.aload_n 0, 1) := by decide +kernel
theorem dd_M_begin_82 : decode cd_M_begin 82 = .ok (.getfield 23, 3) := by decide +kernel
theorem dd_M_begin_85 : decode cd_M_begin 85 = .ok (.iload_n 2, 1) := by decide +kernel
theorem dd_M_begin_86 : decode cd_M_begin 86 = .ok (.iaload, 1) := by decide +kernel
theorem dd_M_begin_87 : decode cd_M_begin 87 = .ok (.if_icmp .le 7, 3) := by decide +kernel
theorem dd_M_begin_90 : decode cd_M_begin 90 = .ok (.iload_n 3, 1) := by decide +kernel
theorem dd_M_begin_91 : decode cd_M_begin 91 = .ok (.goto 9, 3) := by decide +kernel
theorem dd_M_begin_94 : decode cd_M_begin 94 = .ok (.aload_n 0, 1) := by decide +kernel
theorem dd_M_begin_95 : decode cd_M_begin 95 = .ok (.getfield 23, 3) := by decide +kernel
theorem dd_M_begin_98 : decode cd_M_begin 98 = .ok (.iload_n 2, 1) := by decide +kernel
theorem dd_M_begin_99 : decode cd_M_begin 99 = .ok (.iaload, 1) := by decide +kernel
theorem dd_M_begin_100 : decode cd_M_begin 100 = .ok (.iastore, 1) := by decide +kernel
theorem dd_M_begin_101 : decode cd_M_begin 101 = .ok (.iinc 2 1, 3) := by decide +kernel
theorem dd_M_begin_104 : decode cd_M_begin 104 = .ok (.goto (-43), 3) := by decide +kernel
theorem dd_M_begin_107 : decode cd_M_begin 107 = .ok (.iload_n 1, 1) := by decide +kernel
theorem dd_M_begin_108 : decode cd_M_begin 108 = .ok (.ireturn, 1) := by decide +kernel
theorem dd_M_finish_0 : decode cd_M_finish 0 = .ok (.aload_n 0, 1) := by decide +kernel
theorem dd_M_finish_1 : decode cd_M_finish 1 = .ok (.iload_n 1, 1) := by decide +kernel
theorem dd_M_finish_2 : decode cd_M_finish 2 = .ok (.invokevirtual 115, 3) := by decide +kernel
theorem dd_M_finish_5 : decode cd_M_finish 5 = .ok (.ifCond .eq 13, 3) := by decide +kernel
theorem dd_M_finish_8 : decode cd_M_finish 8 = .ok (.aload_n 0, 1) := by decide +kernel
theorem dd_M_finish_9 : decode cd_M_finish 9 = .ok (.getfield 29, 3) := by decide +kernel
theorem dd_M_finish_12 : decode cd_M_finish 12 = .ok (.iload_n 1, 1) := by decide +kernel
theorem dd_M_finish_13 : decode cd_M_finish 13 = .ok (.iaload, 1) := by decide +kernel
theorem dd_M_finish_14 : decode cd_M_finish 14 = .ok (.iconst 3, 1) := by decide +kernel
theorem dd_M_finish_15 : decode cd_M_finish 15 = .ok (.if_icmp .eq 5, 3) := by decide +kernel
theorem dd_M_finish_18 : decode cd_M_finish 18 = .ok (.iconst 0, 1) := by decide +kernel
theorem dd_M_finish_19 : decode cd_M_finish 19 = .ok (.ireturn, 1) := by decide +kernel
theorem dd_M_finish_20 : decode cd_M_finish 20 = .ok (.aload_n 0, 1) := by decide +kernel
theorem dd_M_finish_21 : decode cd_M_finish 21 = .ok (.iload_n 1, 1) := by decide +kernel
theorem dd_M_finish_22 : decode cd_M_finish 22 = .ok (.iconst 5, 1) := by decide +kernel
theorem dd_M_finish_23 : decode cd_M_finish 23 = .ok (.invokevirtual 131, 3) := by decide +kernel
theorem dd_M_finish_26 : decode cd_M_finish 26 = .ok (.iconst 1, 1) := by decide +kernel
theorem dd_M_finish_27 : decode cd_M_finish 27 = .ok (.ireturn, 1) := by decide +kernel
theorem dd_M_advance_0 : decode cd_M_advance 0 = .ok (.lload_n 1, 1) := by decide +kernel
theorem dd_M_advance_1 : decode cd_M_advance 1 = .ok (.lconst 0, 1) := by decide +kernel
theorem dd_M_advance_2 : decode cd_M_advance 2 = .ok (.lcmp, 1) := by decide +kernel
theorem dd_M_advance_3 : decode cd_M_advance 3 = .ok (.ifCond .ge 6, 3) := by decide +kernel
theorem dd_M_advance_6 : decode cd_M_advance 6 = .ok (.bipush (-9), 2) := by decide +kernel
theorem dd_M_advance_8 : decode cd_M_advance 8 = .ok (.ireturn, 1) := by decide +kernel
theorem dd_M_advance_9 : decode cd_M_advance 9 = .ok (.aload_n 0, 1) := by decide +kernel
theorem dd_M_advance_10 : decode cd_M_advance 10 = .ok (.lload_n 1, 1) := by decide +kernel
theorem dd_M_advance_11 : decode cd_M_advance 11 = .ok (.ldc2_w 135, 3) := by decide +kernel
theorem dd_M_advance_14 : decode cd_M_advance 14 = .ok (.aload_n 0, 1) := by decide +kernel
theorem dd_M_advance_15 : decode cd_M_advance 15 = .ok (.getfield 111, 3) := by decide +kernel
theorem dd_M_advance_18 : decode cd_M_advance 18 = .ok (.lsub, 1) := by decide +kernel
theorem dd_M_advance_19 : decode cd_M_advance 19 = .ok (.lcmp, 1) := by decide +kernel
theorem dd_M_advance_20 : decode cd_M_advance 20 = .ok (.ifCond .le 9, 3) := by decide +kernel
theorem dd_M_advance_23 : decode cd_M_advance 23 = .ok (.ldc2_w 135, 3) := by decide +kernel
theorem dd_M_advance_26 : decode cd_M_advance 26 = .ok (.goto 9, 3) := by decide +kernel
theorem dd_M_advance_29 : decode cd_M_advance 29 = .ok (.aload_n 0, 1) := by decide +kernel
theorem dd_M_advance_30 : decode cd_M_advance 30 = .ok (.getfield 111, 3) := by decide +kernel
theorem dd_M_advance_33 : decode cd_M_advance 33 = .ok (.lload_n 1, 1) := by decide +kernel
theorem dd_M_advance_34 : decode cd_M_advance 34 = .ok (.ladd, 1) := by decide +kernel
theorem dd_M_advance_35 : decode cd_M_advance 35 = .ok (.putfield 111, 3) := by decide +kernel
theorem dd_M_advance_38 : decode cd_M_advance 38 = .ok (.iconst 0, 1) := by decide +kernel
theorem dd_M_advance_39 : decode cd_M_advance 39 = .ok (.istore_n 3, 1) := by decide +kernel
theorem dd_M_advance_40 : decode cd_M_advance 40 = .ok (.aload_n 0, 1) := by decide +kernel
theorem dd_M_advance_41 : decode cd_M_advance 41 = .ok (.invokevirtual 137, 3) := by decide +kernel
theorem dd_M_advance_44 : decode cd_M_advance 44 = .ok (.istore 4, 2) := by decide +kernel
theorem dd_M_advance_46 : decode cd_M_advance 46 = .ok (.iload 4, 2) := by decide +kernel
theorem dd_M_advance_48 : decode cd_M_advance 48 = .ok (.ifCond .lt 29, 3) := by decide +kernel
theorem dd_M_advance_51 : decode cd_M_advance 51 = .ok (.iload_n 3, 1) := by decide +kernel
theorem dd_M_advance_52 : decode cd_M_advance 52 = .ok (.sipush 160, 3) := by decide +kernel
theorem dd_M_advance_55 : decode cd_M_advance 55 = .ok (.if_icmp .ge 22, 3) := by decide +kernel
theorem dd_M_advance_58 : decode cd_M_advance 58 = .ok (.aload_n 0, 1) := by decide +kernel
theorem dd_M_advance_59 : decode cd_M_advance 59 = .ok (.iload 4, 2) := by decide +kernel
theorem dd_M_advance_61 : decode cd_M_advance 61 = .ok (.invokevirtual 95, 3) := by decide +kernel
theorem dd_M_advance_64 : decode cd_M_advance 64 = .ok (.iload_n 3, 1) := by decide +kernel
theorem dd_M_advance_65 : decode cd_M_advance 65 = .ok (.iconst 1, 1) := by decide +kernel
theorem dd_M_advance_66 : decode cd_M_advance 66 = .ok (.iadd, 1) := by decide +kernel
theorem dd_M_advance_67 : decode cd_M_advance 67 = .ok (.istore_n 3, 1) := by decide +kernel
theorem dd_M_advance_68 : decode cd_M_advance 68 = .ok (.aload_n 0, 1) := by decide +kernel
theorem dd_M_advance_69 : decode cd_M_advance 69 = .ok (.invokevirtual 137, 3) := by decide +kernel
theorem dd_M_advance_72 : decode cd_M_advance 72 = .ok (.istore 4, 2) := by decide +kernel
theorem dd_M_advance_74 : decode cd_M_advance 74 = .ok (.goto (-28), 3) := by decide +kernel
theorem dd_M_advance_77 : decode cd_M_advance 77 = .ok (.iload_n 3, 1) := by decide +kernel
theorem dd_M_advance_78 : decode cd_M_advance 78 = .ok (.ireturn, 1) := by decide +kernel
theorem dd_M_due_0 : decode cd_M_due 0 = .ok (.iconst (-1), 1) := by decide +kernel
theorem dd_M_due_1 : decode cd_M_due 1 = .ok (.istore_n 1, 1) := by decide +kernel
theorem dd_M_due_2 : decode cd_M_due 2 = .ok (.iconst 0, 1) := by decide +kernel
theorem dd_M_due_3 : decode cd_M_due 3 = .ok (.istore_n 2, 1) := by decide +kernel
theorem dd_M_due_4 : decode cd_M_due 4 = .ok (.iload_n 2, 1) := by decide +kernel
theorem dd_M_due_5 : decode cd_M_due 5 = .ok (.aload_n 0, 1) := by decide +kernel
theorem dd_M_due_6 : decode cd_M_due 6 = .ok (.getfield 61, 3) := by decide +kernel
theorem dd_M_due_9 : decode cd_M_due 9 = .ok (.if_icmp .ge 55, 3) := by decide +kernel
theorem dd_M_due_12 : decode cd_M_due 12 = .ok (.aload_n 0, 1) := by decide +kernel
theorem dd_M_due_13 : decode cd_M_due 13 = .ok (.getfield 29, 3) := by decide +kernel
theorem dd_M_due_16 : decode cd_M_due 16 = .ok (.iload_n 2, 1) := by decide +kernel
theorem dd_M_due_17 : decode cd_M_due 17 = .ok (.iaload, 1) := by decide +kernel
theorem dd_M_due_18 : decode cd_M_due 18 = .ok (.iconst 1, 1) := by decide +kernel
theorem dd_M_due_19 : decode cd_M_due 19 = .ok (.if_icmp .ne 39, 3) := by decide +kernel
theorem dd_M_due_22 : decode cd_M_due 22 = .ok (.aload_n 0, 1) := by decide +kernel
theorem dd_M_due_23 : decode cd_M_due 23 = .ok (.getfield 44, 3) := by decide +kernel
theorem dd_M_due_26 : decode cd_M_due 26 = .ok (.iload_n 2, 1) := by decide +kernel
theorem dd_M_due_27 : decode cd_M_due 27 = .ok (.laload, 1) := by decide +kernel
theorem dd_M_due_28 : decode cd_M_due 28 = .ok (.aload_n 0, 1) := by decide +kernel
theorem dd_M_due_29 : decode cd_M_due 29 = .ok (.getfield 111, 3) := by decide +kernel
theorem dd_M_due_32 : decode cd_M_due 32 = .ok (.lcmp, 1) := by decide +kernel
theorem dd_M_due_33 : decode cd_M_due 33 = .ok (.ifCond .gt 25, 3) := by decide +kernel
theorem dd_M_due_36 : decode cd_M_due 36 = .ok (.iload_n 1, 1) := by decide +kernel
theorem dd_M_due_37 : decode cd_M_due 37 = .ok (.ifCond .lt 19, 3) := by decide +kernel
theorem dd_M_due_40 : decode cd_M_due 40 = .ok (.aload_n 0, 1) := by decide +kernel
theorem dd_M_due_41 : decode cd_M_due 41 = .ok (.getfield 44, 3) := by decide +kernel
theorem dd_M_due_44 : decode cd_M_due 44 = .ok (.iload_n 2, 1) := by decide +kernel
theorem dd_M_due_45 : decode cd_M_due 45 = .ok (.laload, 1) := by decide +kernel
theorem dd_M_due_46 : decode cd_M_due 46 = .ok (.aload_n 0, 1) := by decide +kernel
theorem dd_M_due_47 : decode cd_M_due 47 = .ok (.getfield 44, 3) := by decide +kernel
theorem dd_M_due_50 : decode cd_M_due 50 = .ok (.iload_n 1, 1) := by decide +kernel
theorem dd_M_due_51 : decode cd_M_due 51 = .ok (.laload, 1) := by decide +kernel
theorem dd_M_due_52 : decode cd_M_due 52 = .ok (.lcmp, 1) := by decide +kernel
theorem dd_M_due_53 : decode cd_M_due 53 = .ok (.ifCond .ge 5, 3) := by decide +kernel
theorem dd_M_due_56 : decode cd_M_due 56 = .ok (.iload_n 2, 1) := by decide +kernel
theorem dd_M_due_57 : decode cd_M_due 57 = .ok (.istore_n 1, 1) := by decide +kernel
theorem dd_M_due_58 : decode cd_M_due 58 = .ok (.iinc 2 1, 3) := by decide +kernel
theorem dd_M_due_61 : decode cd_M_due 61 = .ok (.goto (-57), 3) := by decide +kernel
theorem dd_M_due_64 : decode cd_M_due 64 = .ok (.iload_n 1, 1) := by decide +kernel
theorem dd_M_due_65 : decode cd_M_due 65 = .ok (.ireturn, 1) := by decide +kernel
theorem dd_M_now_0 : decode cd_M_now 0 = .ok (.aload_n 0, 1) := by decide +kernel
theorem dd_M_now_1 : decode cd_M_now 1 = .ok (.getfield 111, 3) := by decide +kernel
theorem dd_M_now_4 : decode cd_M_now 4 = .ok (.lreturn, 1) := by decide +kernel
theorem dd_M_state_0 : decode cd_M_state 0 = .ok (.aload_n 0, 1) := by decide +kernel
theorem dd_M_state_1 : decode cd_M_state 1 = .ok (.iload_n 1, 1) := by decide +kernel
theorem dd_M_state_2 : decode cd_M_state 2 = .ok (.invokevirtual 115, 3) := by decide +kernel
theorem dd_M_state_5 : decode cd_M_state 5 = .ok (.ifCond .ne 6, 3) := by decide +kernel
theorem dd_M_state_8 : decode cd_M_state 8 = .ok (.bipush (-3), 2) := by decide +kernel
theorem dd_M_state_10 : decode cd_M_state 10 = .ok (.ireturn, 1) := by decide +kernel
theorem dd_M_state_11 : decode cd_M_state 11 = .ok (.aload_n 0, 1) := by decide +kernel
theorem dd_M_state_12 : decode cd_M_state 12 = .ok (.getfield 29, 3) := by decide +kernel
theorem dd_M_state_15 : decode cd_M_state 15 = .ok (.iload_n 1, 1) := by decide +kernel
theorem dd_M_state_16 : decode cd_M_state 16 = .ok (.iaload, 1) := by decide +kernel
theorem dd_M_state_17 : decode cd_M_state 17 = .ok (.aload_n 0, 1) := by decide +kernel
theorem dd_M_state_18 : decode cd_M_state 18 = .ok (.getfield 52, 3) := by decide +kernel
theorem dd_M_state_21 : decode cd_M_state 21 = .ok (.iload_n 1, 1) := by decide +kernel
theorem dd_M_state_22 : decode cd_M_state 22 = .ok (.baload, 1) := by decide +kernel
theorem dd_M_state_23 : decode cd_M_state 23 = .ok (.ifCond .eq 8, 3) := by decide +kernel
theorem dd_M_state_26 : decode cd_M_state 26 = .ok (.bipush 8, 2) := by decide +kernel
theorem dd_M_state_28 : decode cd_M_state 28 = .ok (.goto 4, 3) := by decide +kernel
theorem dd_M_state_31 : decode cd_M_state 31 = .ok (.iconst 0, 1) := by decide +kernel
theorem dd_M_state_32 : decode cd_M_state 32 = .ok (.iadd, 1) := by decide +kernel
theorem dd_M_state_33 : decode cd_M_state 33 = .ok (.ireturn, 1) := by decide +kernel
theorem dd_M_queued_0 : decode cd_M_queued 0 = .ok (.aload_n 0, 1) := by decide +kernel
theorem dd_M_queued_1 : decode cd_M_queued 1 = .ok (.iload_n 1, 1) := by decide +kernel
theorem dd_M_queued_2 : decode cd_M_queued 2 = .ok (.invokevirtual 102, 3) := by decide +kernel
theorem dd_M_queued_5 : decode cd_M_queued 5 = .ok (.ifCond .ne 5, 3) := by decide +kernel
theorem dd_M_queued_8 : decode cd_M_queued 8 = .ok (.iconst (-1), 1) := by decide +kernel
theorem dd_M_queued_9 : decode cd_M_queued 9 = .ok (.ireturn, 1) := by decide +kernel
theorem dd_M_queued_10 : decode cd_M_queued 10 = .ok (.iconst 0, 1) := by decide +kernel
theorem dd_M_queued_11 : decode cd_M_queued 11 = .ok (.istore_n 2, 1) := by decide +kernel
theorem dd_M_queued_12 : decode cd_M_queued 12 = .ok (.iconst 0, 1) := by decide +kernel
theorem dd_M_queued_13 : decode cd_M_queued 13 = .ok (.istore_n 3, 1) := by decide +kernel
theorem dd_M_queued_14 : decode cd_M_queued 14 = .ok (.iload_n 3, 1) := by decide +kernel
theorem dd_M_queued_15 : decode cd_M_queued 15 = .ok (.aload_n 0, 1) := by decide +kernel
theorem dd_M_queued_16 : decode cd_M_queued 16 = .ok (.getfield 61, 3) := by decide +kernel
theorem dd_M_queued_19 : decode cd_M_queued 19 = .ok (.if_icmp .ge 37, 3) := by decide +kernel
theorem dd_M_queued_22 : decode cd_M_queued 22 = .ok (.aload_n 0, 1) := by decide +kernel
theorem dd_M_queued_23 : decode cd_M_queued 23 = .ok (.getfield 29, 3) := by decide +kernel
theorem dd_M_queued_26 : decode cd_M_queued 26 = .ok (.iload_n 3, 1) := by decide +kernel
theorem dd_M_queued_27 : decode cd_M_queued 27 = .ok (.iaload, 1) := by decide +kernel
theorem dd_M_queued_28 : decode cd_M_queued 28 = .ok (.iconst 2, 1) := by decide +kernel
theorem dd_M_queued_29 : decode cd_M_queued 29 = .ok (.if_icmp .ne 19, 3) := by decide +kernel
theorem dd_M_queued_32 : decode cd_M_queued 32 = .ok (.aload_n 0, 1) := by decide +kernel
theorem dd_M_queued_33 : decode cd_M_queued 33 = .ok (.getfield 26, 3) := by decide +kernel
theorem dd_M_queued_36 : decode cd_M_queued 36 = .ok (.iload_n 3, 1) := by decide +kernel
theorem dd_M_queued_37 : decode cd_M_queued 37 = .ok (.iaload, 1) := by decide +kernel
theorem dd_M_queued_38 : decode cd_M_queued 38 = .ok (.iload_n 1, 1) := by decide +kernel
theorem dd_M_queued_39 : decode cd_M_queued 39 = .ok (.if_icmp .ne 9, 3) := by decide +kernel
theorem dd_M_queued_42 : decode cd_M_queued 42 = .ok (.iload_n 2, 1) := by decide +kernel
theorem dd_M_queued_43 : decode cd_M_queued 43 = .ok (.iconst 1, 1) := by decide +kernel
theorem dd_M_queued_44 : decode cd_M_queued 44 = .ok (.iadd, 1) := by decide +kernel
theorem dd_M_queued_45 : decode cd_M_queued 45 = .ok (.goto 4, 3) := by decide +kernel
theorem dd_M_queued_48 : decode cd_M_queued 48 = .ok (.iload_n 2, 1) := by decide +kernel
theorem dd_M_queued_49 : decode cd_M_queued 49 = .ok (.istore_n 2, 1) := by decide +kernel
theorem dd_M_queued_50 : decode cd_M_queued 50 = .ok (.iinc 3 1, 3) := by decide +kernel
theorem dd_M_queued_53 : decode cd_M_queued 53 = .ok (.goto (-39), 3) := by decide +kernel
theorem dd_M_queued_56 : decode cd_M_queued 56 = .ok (.iload_n 2, 1) := by decide +kernel
theorem dd_M_queued_57 : decode cd_M_queued 57 = .ok (.ireturn, 1) := by decide +kernel
theorem dd_M_through_0 : decode cd_M_through 0 = .ok (.aload_n 0, 1) := by decide +kernel
theorem dd_M_through_1 : decode cd_M_through 1 = .ok (.iload_n 1, 1) := by decide +kernel
theorem dd_M_through_2 : decode cd_M_through 2 = .ok (.invokevirtual 102, 3) := by decide +kernel
theorem dd_M_through_5 : decode cd_M_through 5 = .ok (.ifCond .eq 11, 3) := by decide +kernel
theorem dd_M_through_8 : decode cd_M_through 8 = .ok (.aload_n 0, 1) := by decide +kernel
theorem dd_M_through_9 : decode cd_M_through 9 = .ok (.iload_n 1, 1) := by decide +kernel
theorem dd_M_through_10 : decode cd_M_through 10 = .ok (.invokevirtual 72, 3) := by decide +kernel
theorem dd_M_through_13 : decode cd_M_through 13 = .ok (.goto 4, 3) := by decide +kernel
theorem dd_M_through_16 : decode cd_M_through 16 = .ok (.iconst (-1), 1) := by decide +kernel
theorem dd_M_through_17 : decode cd_M_through 17 = .ok (.ireturn, 1) := by decide +kernel
theorem dd_M_peak_0 : decode cd_M_peak 0 = .ok (.aload_n 0, 1) := by decide +kernel
theorem dd_M_peak_1 : decode cd_M_peak 1 = .ok (.iload_n 1, 1) := by decide +kernel
theorem dd_M_peak_2 : decode cd_M_peak 2 = .ok (.invokevirtual 102, 3) := by decide +kernel
theorem dd_M_peak_5 : decode cd_M_peak 5 = .ok (.ifCond .eq 12, 3) := by decide +kernel
theorem dd_M_peak_8 : decode cd_M_peak 8 = .ok (.aload_n 0, 1) := by decide +kernel
theorem dd_M_peak_9 : decode cd_M_peak 9 = .ok (.getfield 23, 3) := by decide +kernel
theorem dd_M_peak_12 : decode cd_M_peak 12 = .ok (.iload_n 1, 1) := by decide +kernel
theorem dd_M_peak_13 : decode cd_M_peak 13 = .ok (.iaload, 1) := by decide +kernel
theorem dd_M_peak_14 : decode cd_M_peak 14 = .ok (.goto 4, 3) := by decide +kernel
theorem dd_M_peak_17 : decode cd_M_peak 17 = .ok (.iconst (-1), 1) := by decide +kernel
theorem dd_M_peak_18 : decode cd_M_peak 18 = .ok (.ireturn, 1) := by decide +kernel
theorem dd_M_count_0 : decode cd_M_count 0 = .ok (.iload_n 1, 1) := by decide +kernel
theorem dd_M_count_1 : decode cd_M_count 1 = .ok (.ifCond .lt 8, 3) := by decide +kernel
theorem dd_M_count_4 : decode cd_M_count 4 = .ok (.iload_n 1, 1) := by decide +kernel
theorem dd_M_count_5 : decode cd_M_count 5 = .ok (.iconst 3, 1) := by decide +kernel
theorem dd_M_count_6 : decode cd_M_count 6 = .ok (.if_icmp .le 8, 3) := by decide +kernel
theorem dd_M_count_9 : decode cd_M_count 9 = .ok (.bipush (-2), 2) := by decide +kernel
theorem dd_M_count_11 : decode cd_M_count 11 = .ok (.goto 8, 3) := by decide +kernel
theorem dd_M_count_14 : decode cd_M_count 14 = .ok (.aload_n 0, 1) := by decide +kernel
theorem dd_M_count_15 : decode cd_M_count 15 = .ok (.iload_n 1, 1) := by decide +kernel
theorem dd_M_count_16 : decode cd_M_count 16 = .ok (.invokevirtual 92, 3) := by decide +kernel
theorem dd_M_count_19 : decode cd_M_count 19 = .ok (.ireturn, 1) := by decide +kernel
theorem dd_M_ready_0 : decode cd_M_ready 0 = .ok (.iconst 0, 1) := by decide +kernel
theorem dd_M_ready_1 : decode cd_M_ready 1 = .ok (.istore_n 1, 1) := by decide +kernel
theorem dd_M_ready_2 : decode cd_M_ready 2 = .ok (.iconst 0, 1) := by decide +kernel
theorem dd_M_ready_3 : decode cd_M_ready 3 = .ok (.istore_n 2, 1) := by decide +kernel
theorem dd_M_ready_4 : decode cd_M_ready 4 = .ok (.iload_n 2, 1) := by decide +kernel
theorem dd_M_ready_5 : decode cd_M_ready 5 = .ok (.aload_n 0, 1) := by decide +kernel
theorem dd_M_ready_6 : decode cd_M_ready 6 = .ok (.getfield 61, 3) := by decide +kernel
theorem dd_M_ready_9 : decode cd_M_ready 9 = .ok (.if_icmp .ge 25, 3) := by decide +kernel
theorem dd_M_ready_12 : decode cd_M_ready 12 = .ok (.aload_n 0, 1) := by decide +kernel
theorem dd_M_ready_13 : decode cd_M_ready 13 = .ok (.iload_n 2, 1) := by decide +kernel
theorem dd_M_ready_14 : decode cd_M_ready 14 = .ok (.invokevirtual 122, 3) := by decide +kernel
theorem dd_M_ready_17 : decode cd_M_ready 17 = .ok (.ifCond .eq 9, 3) := by decide +kernel
theorem dd_M_ready_20 : decode cd_M_ready 20 = .ok (.iload_n 1, 1) := by decide +kernel
theorem dd_M_ready_21 : decode cd_M_ready 21 = .ok (.iconst 1, 1) := by decide +kernel
theorem dd_M_ready_22 : decode cd_M_ready 22 = .ok (.iadd, 1) := by decide +kernel
theorem dd_M_ready_23 : decode cd_M_ready 23 = .ok (.goto 4, 3) := by decide +kernel
theorem dd_M_ready_26 : decode cd_M_ready 26 = .ok (.iload_n 1, 1) := by decide +kernel
theorem dd_M_ready_27 : decode cd_M_ready 27 = .ok (.istore_n 1, 1) := by decide +kernel
theorem dd_M_ready_28 : decode cd_M_ready 28 = .ok (.iinc 2 1, 3) := by decide +kernel
theorem dd_M_ready_31 : decode cd_M_ready 31 = .ok (.goto (-27), 3) := by decide +kernel
theorem dd_M_ready_34 : decode cd_M_ready 34 = .ok (.iload_n 1, 1) := by decide +kernel
theorem dd_M_ready_35 : decode cd_M_ready 35 = .ok (.ireturn, 1) := by decide +kernel
end
section
/-! Part 02: decode rows of the class. -/
theorem dd_D_init_0 : decode cd_D_init 0 = .ok (.aload_n 0, 1) := by decide +kernel
theorem dd_D_init_1 : decode cd_D_init 1 = .ok (.invokespecial 1, 3) := by decide +kernel
theorem dd_D_init_4 : decode cd_D_init 4 = .ok (.aload_n 0, 1) := by decide +kernel
theorem dd_D_init_5 : decode cd_D_init 5 = .ok (.iconst 1, 1) := by decide +kernel
theorem dd_D_init_6 : decode cd_D_init 6 = .ok (.bipush 8, 2) := by decide +kernel
theorem dd_D_init_8 : decode cd_D_init 8 = .ok (.iload_n 1, 1) := by decide +kernel
theorem dd_D_init_9 : decode cd_D_init 9 = .ok (.invokestatic 9, 3) := by decide +kernel
theorem dd_D_init_12 : decode cd_D_init 12 = .ok (.invokestatic 15, 3) := by decide +kernel
theorem dd_D_init_15 : decode cd_D_init 15 = .ok (.putfield 18, 3) := by decide +kernel
theorem dd_D_init_18 : decode cd_D_init 18 = .ok (.aload_n 0, 1) := by decide +kernel
theorem dd_D_init_19 : decode cd_D_init 19 = .ok (.bipush 12, 2) := by decide +kernel
theorem dd_D_init_21 : decode cd_D_init 21 = .ok (.anewarray 22, 3) := by decide +kernel
theorem dd_D_init_24 : decode cd_D_init 24 = .ok (.putfield 24, 3) := by decide +kernel
theorem dd_D_init_27 : decode cd_D_init 27 = .ok (.aload_n 0, 1) := by decide +kernel
theorem dd_D_init_28 : decode cd_D_init 28 = .ok (.sipush 160, 3) := by decide +kernel
theorem dd_D_init_31 : decode cd_D_init 31 = .ok (.anewarray 28, 3) := by decide +kernel
theorem dd_D_init_34 : decode cd_D_init 34 = .ok (.putfield 30, 3) := by decide +kernel
theorem dd_D_init_37 : decode cd_D_init 37 = .ok (.aload_n 0, 1) := by decide +kernel
theorem dd_D_init_38 : decode cd_D_init 38 = .ok (.iconst 4, 1) := by decide +kernel
theorem dd_D_init_39 : decode cd_D_init 39 = .ok (.anewarray 34, 3) := by decide +kernel
theorem dd_D_init_42 : decode cd_D_init 42 = .ok (.putfield 36, 3) := by decide +kernel
theorem dd_D_init_45 : decode cd_D_init 45 = .ok (.iconst 0, 1) := by decide +kernel
theorem dd_D_init_46 : decode cd_D_init 46 = .ok (.istore_n 2, 1) := by decide +kernel
theorem dd_D_init_47 : decode cd_D_init 47 = .ok (.iload_n 2, 1) := by decide +kernel
theorem dd_D_init_48 : decode cd_D_init 48 = .ok (.iconst 3, 1) := by decide +kernel
theorem dd_D_init_49 : decode cd_D_init 49 = .ok (.if_icmp .ge 25, 3) := by decide +kernel
theorem dd_D_init_52 : decode cd_D_init 52 = .ok (.aload_n 0, 1) := by decide +kernel
theorem dd_D_init_53 : decode cd_D_init 53 = .ok (.getfield 24, 3) := by decide +kernel
theorem dd_D_init_56 : decode cd_D_init 56 = .ok (.iload_n 2, 1) := by decide +kernel
theorem dd_D_init_57 : decode cd_D_init 57 = .ok (.new 22, 3) := by decide +kernel
theorem dd_D_init_60 : decode cd_D_init 60 = .ok (.dup, 1) := by decide +kernel
theorem dd_D_init_61 : decode cd_D_init 61 = .ok (.iload_n 2, 1) := by decide +kernel
theorem dd_D_init_62 : decode cd_D_init 62 = .ok (.aconst_null, 1) := by decide +kernel
theorem dd_D_init_63 : decode cd_D_init 63 = .ok (.iconst 0, 1) := by decide +kernel
theorem dd_D_init_64 : decode cd_D_init 64 = .ok (.invokespecial 40, 3) := by decide +kernel
theorem dd_D_init_67 : decode cd_D_init 67 = .ok (.aastore, 1) := by decide +kernel
theorem dd_D_init_68 : decode cd_D_init 68 = .ok (.iinc 2 1, 3) := by decide +kernel
theorem dd_D_init_71 : decode cd_D_init 71 = .ok (.goto (-24), 3) := by decide +kernel
theorem dd_D_init_74 : decode cd_D_init 74 = .ok (.aload_n 0, 1) := by decide +kernel
theorem dd_D_init_75 : decode cd_D_init 75 = .ok (.iconst 3, 1) := by decide +kernel
theorem dd_D_init_76 : decode cd_D_init 76 = .ok (.putfield 43, 3) := by decide +kernel
theorem dd_D_init_79 : decode cd_D_init 79 = .ok (.iconst 0, 1) := by decide +kernel
theorem dd_D_init_80 : decode cd_D_init 80 = .ok (.istore_n 2, 1) := by decide +kernel
theorem dd_D_init_81 : decode cd_D_init 81 = .ok (.iload_n 2, 1) := by decide +kernel
theorem dd_D_init_82 : decode cd_D_init 82 = .ok (.iconst 4, 1) := by decide +kernel
theorem dd_D_init_83 : decode cd_D_init 83 = .ok (.if_icmp .ge 22, 3) := by decide +kernel
theorem dd_D_init_86 : decode cd_D_init 86 = .ok (.aload_n 0, 1) := by decide +kernel
theorem dd_D_init_87 : decode cd_D_init 87 = .ok (.getfield 36, 3) := by decide +kernel
theorem dd_D_init_90 : decode cd_D_init 90 = .ok (.iload_n 2, 1) := by decide +kernel
theorem dd_D_init_91 : decode cd_D_init 91 = .ok (.new 34, 3) := by decide +kernel
theorem dd_D_init_94 : decode cd_D_init 94 = .ok (.dup, 1) := by decide +kernel
theorem dd_D_init_95 : decode cd_D_init 95 = .ok (.invokespecial 46, 3) := by decide +kernel
theorem dd_D_init_98 : decode cd_D_init 98 = .ok (.aastore, 1) := by decide +kernel
theorem dd_D_init_99 : decode cd_D_init 99 = .ok (.iinc 2 1, 3) := by decide +kernel
theorem dd_D_init_102 : decode cd_D_init 102 = .ok (.goto (-21), 3) := by decide +kernel
theorem dd_D_init_105 : decode cd_D_init 105 = .ok (.return_, 1) := by decide +kernel
theorem dd_D_queue_0 : decode cd_D_queue 0 = .ok (.aload_n 0, 1) := by decide +kernel
theorem dd_D_queue_1 : decode cd_D_queue 1 = .ok (.iload_n 1, 1) := by decide +kernel
theorem dd_D_queue_2 : decode cd_D_queue 2 = .ok (.invokevirtual 47, 3) := by decide +kernel
theorem dd_D_queue_5 : decode cd_D_queue 5 = .ok (.astore_n 3, 1) := by decide +kernel
theorem dd_D_queue_6 : decode cd_D_queue 6 = .ok (.aload_n 3, 1) := by decide +kernel
theorem dd_D_queue_7 : decode cd_D_queue 7 = .ok (.ifnonnull 5, 3) := by decide +kernel
theorem dd_D_queue_10 : decode cd_D_queue 10 = .ok (.iconst (-1), 1) := by decide +kernel
theorem dd_D_queue_11 : decode cd_D_queue 11 = .ok (.ireturn, 1) := by decide +kernel
theorem dd_D_queue_12 : decode cd_D_queue 12 = .ok (.iload_n 2, 1) := by decide +kernel
theorem dd_D_queue_13 : decode cd_D_queue 13 = .ok (.iconst 1, 1) := by decide +kernel
theorem dd_D_queue_14 : decode cd_D_queue 14 = .ok (.if_icmp .lt 9, 3) := by decide +kernel
theorem dd_D_queue_17 : decode cd_D_queue 17 = .ok (.iload_n 2, 1) := by decide +kernel
theorem dd_D_queue_18 : decode cd_D_queue 18 = .ok (.bipush 8, 2) := by decide +kernel
theorem dd_D_queue_20 : decode cd_D_queue 20 = .ok (.if_icmp .le 6, 3) := by decide +kernel
theorem dd_D_queue_23 : decode cd_D_queue 23 = .ok (.bipush (-9), 2) := by decide +kernel
theorem dd_D_queue_25 : decode cd_D_queue 25 = .ok (.ireturn, 1) := by decide +kernel
theorem dd_D_queue_26 : decode cd_D_queue 26 = .ok (.aload_n 0, 1) := by decide +kernel
theorem dd_D_queue_27 : decode cd_D_queue 27 = .ok (.getfield 43, 3) := by decide +kernel
theorem dd_D_queue_30 : decode cd_D_queue 30 = .ok (.bipush 12, 2) := by decide +kernel
theorem dd_D_queue_32 : decode cd_D_queue 32 = .ok (.if_icmp .lt 6, 3) := by decide +kernel
theorem dd_D_queue_35 : decode cd_D_queue 35 = .ok (.bipush (-4), 2) := by decide +kernel
theorem dd_D_queue_37 : decode cd_D_queue 37 = .ok (.ireturn, 1) := by decide +kernel
theorem dd_D_queue_38 : decode cd_D_queue 38 = .ok (.aload_n 0, 1) := by decide +kernel
theorem dd_D_queue_39 : decode cd_D_queue 39 = .ok (.getfield 43, 3) := by decide +kernel
theorem dd_D_queue_42 : decode cd_D_queue 42 = .ok (.istore 4, 2) := by decide +kernel
theorem dd_D_queue_44 : decode cd_D_queue 44 = .ok (.aload_n 0, 1) := by decide +kernel
theorem dd_D_queue_45 : decode cd_D_queue 45 = .ok (.getfield 24, 3) := by decide +kernel
theorem dd_D_queue_48 : decode cd_D_queue 48 = .ok (.iload 4, 2) := by decide +kernel
theorem dd_D_queue_50 : decode cd_D_queue 50 = .ok (.new 22, 3) := by decide +kernel
theorem dd_D_queue_53 : decode cd_D_queue 53 = .ok (.dup, 1) := by decide +kernel
theorem dd_D_queue_54 : decode cd_D_queue 54 = .ok (.iload 4, 2) := by decide +kernel
theorem dd_D_queue_56 : decode cd_D_queue 56 = .ok (.aload_n 3, 1) := by decide +kernel
theorem dd_D_queue_57 : decode cd_D_queue 57 = .ok (.iload_n 2, 1) := by decide +kernel
theorem dd_D_queue_58 : decode cd_D_queue 58 = .ok (.invokespecial 40, 3) := by decide +kernel
theorem dd_D_queue_61 : decode cd_D_queue 61 = .ok (.aastore, 1) := by decide +kernel
theorem dd_D_queue_62 : decode cd_D_queue 62 = .ok (.aload_n 0, 1) := by decide +kernel
theorem dd_D_queue_63 : decode cd_D_queue 63 = .ok (.dup, 1) := by decide +kernel
theorem dd_D_queue_64 : decode cd_D_queue 64 = .ok (.getfield 43, 3) := by decide +kernel
theorem dd_D_queue_67 : decode cd_D_queue 67 = .ok (.iconst 1, 1) := by decide +kernel
theorem dd_D_queue_68 : decode cd_D_queue 68 = .ok (.iadd, 1) := by decide +kernel
theorem dd_D_queue_69 : decode cd_D_queue 69 = .ok (.putfield 43, 3) := by decide +kernel
theorem dd_D_queue_72 : decode cd_D_queue 72 = .ok (.iload 4, 2) := by decide +kernel
theorem dd_D_queue_74 : decode cd_D_queue 74 = .ok (.ireturn, 1) := by decide +kernel
theorem dd_D_retarget_0 : decode cd_D_retarget 0 = .ok (.aload_n 0, 1) := by decide +kernel
theorem dd_D_retarget_1 : decode cd_D_retarget 1 = .ok (.iload_n 1, 1) := by decide +kernel
theorem dd_D_retarget_2 : decode cd_D_retarget 2 = .ok (.invokevirtual 47, 3) := by decide +kernel
theorem dd_D_retarget_5 : decode cd_D_retarget 5 = .ok (.astore_n 3, 1) := by decide +kernel
theorem dd_D_retarget_6 : decode cd_D_retarget 6 = .ok (.aload_n 0, 1) := by decide +kernel
theorem dd_D_retarget_7 : decode cd_D_retarget 7 = .ok (.iload_n 2, 1) := by decide +kernel
theorem dd_D_retarget_8 : decode cd_D_retarget 8 = .ok (.invokevirtual 47, 3) := by decide +kernel
theorem dd_D_retarget_11 : decode cd_D_retarget 11 = .ok (.astore 4, 2) := by decide +kernel
theorem dd_D_retarget_13 : decode cd_D_retarget 13 = .ok (.aload_n 3, 1) := by decide +kernel
theorem dd_D_retarget_14 : decode cd_D_retarget 14 = .ok (.ifnull 15, 3) := by decide +kernel
theorem dd_D_retarget_17 : decode cd_D_retarget 17 = .ok (.aload_n 3, 1) := by decide +kernel
theorem dd_D_retarget_18 : decode cd_D_retarget 18 = .ok (.invokevirtual 51, 3) := by decide +kernel
theorem dd_D_retarget_21 : decode cd_D_retarget 21 = .ok (.ifCond .ne 8, 3) := by decide +kernel
theorem dd_D_retarget_24 : decode cd_D_retarget 24 = .ok (.aload 4, 2) := by decide +kernel
theorem dd_D_retarget_26 : decode cd_D_retarget 26 = .ok (.ifnonnull 5, 3) := by decide +kernel
theorem dd_D_retarget_29 : decode cd_D_retarget 29 = .ok (.iconst (-1), 1) := by decide +kernel
theorem dd_D_retarget_30 : decode cd_D_retarget 30 = .ok (.ireturn, 1) := by decide +kernel
theorem dd_D_retarget_31 : decode cd_D_retarget 31 = .ok (.aload 4, 2) := by decide +kernel
theorem dd_D_retarget_33 : decode cd_D_retarget 33 = .ok (.aload_n 3, 1) := by decide +kernel
theorem dd_D_retarget_34 : decode cd_D_retarget 34 = .ok (.invokevirtual 55, 3) := by decide +kernel
theorem dd_D_retarget_37 : decode cd_D_retarget 37 = .ok (.ifCond .eq 6, 3) := by decide +kernel
theorem dd_D_retarget_40 : decode cd_D_retarget 40 = .ok (.bipush (-5), 2) := by decide +kernel
theorem dd_D_retarget_42 : decode cd_D_retarget 42 = .ok (.ireturn, 1) := by decide +kernel
theorem dd_D_retarget_43 : decode cd_D_retarget 43 = .ok (.aload_n 3, 1) := by decide +kernel
theorem dd_D_retarget_44 : decode cd_D_retarget 44 = .ok (.getfield 59, 3) := by decide +kernel
theorem dd_D_retarget_47 : decode cd_D_retarget 47 = .ok (.ifCond .le 6, 3) := by decide +kernel
theorem dd_D_retarget_50 : decode cd_D_retarget 50 = .ok (.bipush (-6), 2) := by decide +kernel
theorem dd_D_retarget_52 : decode cd_D_retarget 52 = .ok (.ireturn, 1) := by decide +kernel
theorem dd_D_retarget_53 : decode cd_D_retarget 53 = .ok (.aload_n 3, 1) := by decide +kernel
theorem dd_D_retarget_54 : decode cd_D_retarget 54 = .ok (.aload 4, 2) := by decide +kernel
theorem dd_D_retarget_56 : decode cd_D_retarget 56 = .ok (.putfield 62, 3) := by decide +kernel
theorem dd_D_retarget_59 : decode cd_D_retarget 59 = .ok (.iconst 0, 1) := by decide +kernel
theorem dd_D_retarget_60 : decode cd_D_retarget 60 = .ok (.ireturn, 1) := by decide +kernel
theorem dd_D_submit_0 : decode cd_D_submit 0 = .ok (.aload_n 0, 1) := by decide +kernel
theorem dd_D_submit_1 : decode cd_D_submit 1 = .ok (.iload_n 1, 1) := by decide +kernel
theorem dd_D_submit_2 : decode cd_D_submit 2 = .ok (.invokevirtual 47, 3) := by decide +kernel
theorem dd_D_submit_5 : decode cd_D_submit 5 = .ok (.astore 4, 2) := by decide +kernel
theorem dd_D_submit_7 : decode cd_D_submit 7 = .ok (.aload 4, 2) := by decide +kernel
theorem dd_D_submit_9 : decode cd_D_submit 9 = .ok (.ifnonnull 5, 3) := by decide +kernel
theorem dd_D_submit_12 : decode cd_D_submit 12 = .ok (.iconst (-1), 1) := by decide +kernel
theorem dd_D_submit_13 : decode cd_D_submit 13 = .ok (.ireturn, 1) := by decide +kernel
theorem dd_D_submit_14 : decode cd_D_submit 14 = .ok (.aload_n 0, 1) := by decide +kernel
theorem dd_D_submit_15 : decode cd_D_submit 15 = .ok (.iload_n 3, 1) := by decide +kernel
theorem dd_D_submit_16 : decode cd_D_submit 16 = .ok (.invokevirtual 66, 3) := by decide +kernel
theorem dd_D_submit_19 : decode cd_D_submit 19 = .ok (.astore 5, 2) := by decide +kernel
theorem dd_D_submit_21 : decode cd_D_submit 21 = .ok (.aload 5, 2) := by decide +kernel
theorem dd_D_submit_23 : decode cd_D_submit 23 = .ok (.ifnonnull 11, 3) := by decide +kernel
theorem dd_D_submit_26 : decode cd_D_submit 26 = .ok (.iload_n 3, 1) := by decide +kernel
theorem dd_D_submit_27 : decode cd_D_submit 27 = .ok (.iconst (-1), 1) := by decide +kernel
theorem dd_D_submit_28 : decode cd_D_submit 28 = .ok (.if_icmp .eq 6, 3) := by decide +kernel
theorem dd_D_submit_31 : decode cd_D_submit 31 = .ok (.bipush (-2), 2) := by decide +kernel
theorem dd_D_submit_33 : decode cd_D_submit 33 = .ok (.ireturn, 1) := by decide +kernel
theorem dd_D_submit_34 : decode cd_D_submit 34 = .ok (.aload_n 0, 1) := by decide +kernel
theorem dd_D_submit_35 : decode cd_D_submit 35 = .ok (.invokevirtual 70, 3) := by decide +kernel
theorem dd_D_submit_38 : decode cd_D_submit 38 = .ok (.ifCond .eq 6, 3) := by decide +kernel
theorem dd_D_submit_41 : decode cd_D_submit 41 = .ok (.bipush (-4), 2) := by decide +kernel
theorem dd_D_submit_43 : decode cd_D_submit 43 = .ok (.ireturn, 1) := by decide +kernel
theorem dd_D_submit_44 : decode cd_D_submit 44 = .ok (.aload_n 0, 1) := by decide +kernel
theorem dd_D_submit_45 : decode cd_D_submit 45 = .ok (.aload 4, 2) := by decide +kernel
theorem dd_D_submit_47 : decode cd_D_submit 47 = .ok (.iload_n 2, 1) := by decide +kernel
theorem dd_D_submit_48 : decode cd_D_submit 48 = .ok (.invokevirtual 73, 3) := by decide +kernel
theorem dd_D_submit_51 : decode cd_D_submit 51 = .ok (.astore 6, 2) := by decide +kernel
theorem dd_D_submit_53 : decode cd_D_submit 53 = .ok (.aload 5, 2) := by decide +kernel
theorem dd_D_submit_55 : decode cd_D_submit 55 = .ok (.ifnull 21, 3) := by decide +kernel
theorem dd_D_submit_58 : decode cd_D_submit 58 = .ok (.aload 6, 2) := by decide +kernel
theorem dd_D_submit_60 : decode cd_D_submit 60 = .ok (.aload 5, 2) := by decide +kernel
theorem dd_D_submit_62 : decode cd_D_submit 62 = .ok (.putfield 77, 3) := by decide +kernel
theorem dd_D_submit_65 : decode cd_D_submit 65 = .ok (.aload 5, 2) := by decide +kernel
theorem dd_D_submit_67 : decode cd_D_submit 67 = .ok (.dup, 1) := by decide +kernel
theorem dd_D_submit_68 : decode cd_D_submit 68 = .ok (.getfield 81, 3) := by decide +kernel
theorem dd_D_submit_71 : decode cd_D_submit 71 = .ok (.iconst 1, 1) := by decide +kernel
theorem dd_D_submit_72 : decode cd_D_submit 72 = .ok (.iadd, 1) := by decide +kernel
theorem dd_D_submit_73 : decode cd_D_submit 73 = .ok (.putfield 81, 3) := by decide +kernel
theorem dd_D_submit_76 : decode cd_D_submit 76 = .ok (.aload_n 0, 1) := by decide +kernel
theorem dd_D_submit_77 : decode cd_D_submit 77 = .ok (.aload 6, 2) := by decide +kernel
theorem dd_D_submit_79 : decode cd_D_submit 79 = .ok (.invokevirtual 84, 3) := by decide +kernel
theorem dd_D_submit_82 : decode cd_D_submit 82 = .ok (.aload 6, 2) := by decide +kernel
theorem dd_D_submit_84 : decode cd_D_submit 84 = .ok (.getfield 88, 3) := by decide +kernel
theorem dd_D_submit_87 : decode cd_D_submit 87 = .ok (.ireturn, 1) := by decide +kernel
theorem dd_D_after_0 : decode cd_D_after 0 = .ok (.aload_n 0, 1) := by decide +kernel
theorem dd_D_after_1 : decode cd_D_after 1 = .ok (.iload_n 1, 1) := by decide +kernel
theorem dd_D_after_2 : decode cd_D_after 2 = .ok (.invokevirtual 47, 3) := by decide +kernel
theorem dd_D_after_5 : decode cd_D_after 5 = .ok (.astore 4, 2) := by decide +kernel
theorem dd_D_after_7 : decode cd_D_after 7 = .ok (.aload 4, 2) := by decide +kernel
theorem dd_D_after_9 : decode cd_D_after 9 = .ok (.ifnonnull 5, 3) := by decide +kernel
theorem dd_D_after_12 : decode cd_D_after 12 = .ok (.iconst (-1), 1) := by decide +kernel
theorem dd_D_after_13 : decode cd_D_after 13 = .ok (.ireturn, 1) := by decide +kernel
theorem dd_D_after_14 : decode cd_D_after 14 = .ok (.aload_n 0, 1) := by decide +kernel
theorem dd_D_after_15 : decode cd_D_after 15 = .ok (.invokevirtual 70, 3) := by decide +kernel
theorem dd_D_after_18 : decode cd_D_after 18 = .ok (.ifCond .eq 6, 3) := by decide +kernel
theorem dd_D_after_21 : decode cd_D_after 21 = .ok (.bipush (-4), 2) := by decide +kernel
theorem dd_D_after_23 : decode cd_D_after 23 = .ok (.ireturn, 1) := by decide +kernel
theorem dd_D_after_24 : decode cd_D_after 24 = .ok (.aload_n 0, 1) := by decide +kernel
theorem dd_D_after_25 : decode cd_D_after 25 = .ok (.aload 4, 2) := by decide +kernel
theorem dd_D_after_27 : decode cd_D_after 27 = .ok (.iconst 0, 1) := by decide +kernel
theorem dd_D_after_28 : decode cd_D_after 28 = .ok (.invokevirtual 73, 3) := by decide +kernel
theorem dd_D_after_31 : decode cd_D_after 31 = .ok (.astore 5, 2) := by decide +kernel
theorem dd_D_after_33 : decode cd_D_after 33 = .ok (.lload_n 2, 1) := by decide +kernel
theorem dd_D_after_34 : decode cd_D_after 34 = .ok (.lconst 0, 1) := by decide +kernel
theorem dd_D_after_35 : decode cd_D_after 35 = .ok (.lcmp, 1) := by decide +kernel
theorem dd_D_after_36 : decode cd_D_after 36 = .ok (.ifCond .gt 12, 3) := by decide +kernel
theorem dd_D_after_39 : decode cd_D_after 39 = .ok (.aload_n 0, 1) := by decide +kernel
theorem dd_D_after_40 : decode cd_D_after 40 = .ok (.aload 5, 2) := by decide +kernel
theorem dd_D_after_42 : decode cd_D_after 42 = .ok (.invokevirtual 84, 3) := by decide +kernel
theorem dd_D_after_45 : decode cd_D_after 45 = .ok (.goto 19, 3) := by decide +kernel
theorem dd_D_after_48 : decode cd_D_after 48 = .ok (.aload 5, 2) := by decide +kernel
theorem dd_D_after_50 : decode cd_D_after 50 = .ok (.iconst 1, 1) := by decide +kernel
theorem dd_D_after_51 : decode cd_D_after 51 = .ok (.putfield 91, 3) := by decide +kernel
theorem dd_D_after_54 : decode cd_D_after 54 = .ok (.aload 5, 2) := by decide +kernel
theorem dd_D_after_56 : decode cd_D_after 56 = .ok (.aload_n 0, 1) := by decide +kernel
theorem dd_D_after_57 : decode cd_D_after 57 = .ok (.lload_n 2, 1) := by decide +kernel
theorem dd_D_after_58 : decode cd_D_after 58 = .ok (.invokevirtual 94, 3) := by decide +kernel
theorem dd_D_after_61 : decode cd_D_after 61 = .ok (.putfield 98, 3) := by decide +kernel
theorem dd_D_after_64 : decode cd_D_after 64 = .ok (.aload 5, 2) := by decide +kernel
theorem dd_D_after_66 : decode cd_D_after 66 = .ok (.getfield 88, 3) := by decide +kernel
theorem dd_D_after_69 : decode cd_D_after 69 = .ok (.ireturn, 1) := by decide +kernel
theorem dd_D_call_0 : decode cd_D_call 0 = .ok (.aload_n 0, 1) := by decide +kernel
theorem dd_D_call_1 : decode cd_D_call 1 = .ok (.iload_n 1, 1) := by decide +kernel
theorem dd_D_call_2 : decode cd_D_call 2 = .ok (.invokevirtual 102, 3) := by decide +kernel
theorem dd_D_call_5 : decode cd_D_call 5 = .ok (.astore 4, 2) := by decide +kernel
theorem dd_D_call_7 : decode cd_D_call 7 = .ok (.aload 4, 2) := by decide +kernel
theorem dd_D_call_9 : decode cd_D_call 9 = .ok (.ifnull 12, 3) := by decide +kernel
theorem dd_D_call_12 : decode cd_D_call 12 = .ok (.aload 4, 2) := by decide +kernel
theorem dd_D_call_14 : decode cd_D_call 14 = .ok (.getfield 91, 3) := by decide +kernel
theorem dd_D_call_17 : decode cd_D_call 17 = .ok (.iconst 3, 1) := by decide +kernel
theorem dd_D_call_18 : decode cd_D_call 18 = .ok (.if_icmp .eq 6, 3) := by decide +kernel
theorem dd_D_call_21 : decode cd_D_call 21 = .ok (.bipush (-3), 2) := by decide +kernel
theorem dd_D_call_23 : decode cd_D_call 23 = .ok (.ireturn, 1) := by decide +kernel
theorem dd_D_call_24 : decode cd_D_call 24 = .ok (.aload_n 0, 1) := by decide +kernel
theorem dd_D_call_25 : decode cd_D_call 25 = .ok (.iload_n 2, 1) := by decide +kernel
theorem dd_D_call_26 : decode cd_D_call 26 = .ok (.invokevirtual 47, 3) := by decide +kernel
theorem dd_D_call_29 : decode cd_D_call 29 = .ok (.astore 5, 2) := by decide +kernel
theorem dd_D_call_31 : decode cd_D_call 31 = .ok (.aload 5, 2) := by decide +kernel
theorem dd_D_call_33 : decode cd_D_call 33 = .ok (.ifnonnull 5, 3) := by decide +kernel
theorem dd_D_call_36 : decode cd_D_call 36 = .ok (.iconst (-1), 1) := by decide +kernel
theorem dd_D_call_37 : decode cd_D_call 37 = .ok (.ireturn, 1) := by decide +kernel
theorem dd_D_call_38 : decode cd_D_call 38 = .ok (.aload 4, 2) := by decide +kernel
theorem dd_D_call_40 : decode cd_D_call 40 = .ok (.aload 5, 2) := by decide +kernel
theorem dd_D_call_42 : decode cd_D_call 42 = .ok (.iload_n 3, 1) := by decide +kernel
theorem dd_D_call_43 : decode cd_D_call 43 = .ok (.invokestatic 106, 3) := by decide +kernel
theorem dd_D_call_46 : decode cd_D_call 46 = .ok (.ifCond .eq 6, 3) := by decide +kernel
theorem dd_D_call_49 : decode cd_D_call 49 = .ok (.bipush (-7), 2) := by decide +kernel
theorem dd_D_call_51 : decode cd_D_call 51 = .ok (.ireturn, 1) := by decide +kernel
theorem dd_D_call_52 : decode cd_D_call 52 = .ok (.aload_n 0, 1) := by decide +kernel
theorem dd_D_call_53 : decode cd_D_call 53 = .ok (.invokevirtual 70, 3) := by decide +kernel
theorem dd_D_call_56 : decode cd_D_call 56 = .ok (.ifCond .eq 6, 3) := by decide +kernel
theorem dd_D_call_59 : decode cd_D_call 59 = .ok (.bipush (-4), 2) := by decide +kernel
theorem dd_D_call_61 : decode cd_D_call 61 = .ok (.ireturn, 1) := by decide +kernel
theorem dd_D_call_62 : decode cd_D_call 62 = .ok (.aload_n 0, 1) := by decide +kernel
theorem dd_D_call_63 : decode cd_D_call 63 = .ok (.aload 5, 2) := by decide +kernel
theorem dd_D_call_65 : decode cd_D_call 65 = .ok (.iload_n 3, 1) := by decide +kernel
theorem dd_D_call_66 : decode cd_D_call 66 = .ok (.invokevirtual 73, 3) := by decide +kernel
theorem dd_D_call_69 : decode cd_D_call 69 = .ok (.astore 6, 2) := by decide +kernel
theorem dd_D_call_71 : decode cd_D_call 71 = .ok (.aload 6, 2) := by decide +kernel
theorem dd_D_call_73 : decode cd_D_call 73 = .ok (.aload 4, 2) := by decide +kernel
theorem dd_D_call_75 : decode cd_D_call 75 = .ok (.putfield 110, 3) := by decide +kernel
theorem dd_D_call_78 : decode cd_D_call 78 = .ok (.aload 4, 2) := by decide +kernel
theorem dd_D_call_80 : decode cd_D_call 80 = .ok (.iconst 4, 1) := by decide +kernel
theorem dd_D_call_81 : decode cd_D_call 81 = .ok (.putfield 91, 3) := by decide +kernel
theorem dd_D_call_84 : decode cd_D_call 84 = .ok (.aload_n 0, 1) := by decide +kernel
theorem dd_D_call_85 : decode cd_D_call 85 = .ok (.aload 6, 2) := by decide +kernel
theorem dd_D_call_87 : decode cd_D_call 87 = .ok (.invokevirtual 84, 3) := by decide +kernel
theorem dd_D_call_90 : decode cd_D_call 90 = .ok (.aload 6, 2) := by decide +kernel
theorem dd_D_call_92 : decode cd_D_call 92 = .ok (.getfield 88, 3) := by decide +kernel
theorem dd_D_call_95 : decode cd_D_call 95 = .ok (.ireturn, 1) := by decide +kernel
theorem dd_D_whenDone_0 : decode cd_D_whenDone 0 = .ok (.aload_n 0, 1) := by decide +kernel
theorem dd_D_whenDone_1 : decode cd_D_whenDone 1 = .ok (.iload_n 1, 1) := by decide +kernel
theorem dd_D_whenDone_2 : decode cd_D_whenDone 2 = .ok (.invokevirtual 66, 3) := by decide +kernel
theorem dd_D_whenDone_5 : decode cd_D_whenDone 5 = .ok (.astore_n 3, 1) := by decide +kernel
theorem dd_D_whenDone_6 : decode cd_D_whenDone 6 = .ok (.aload_n 3, 1) := by decide +kernel
theorem dd_D_whenDone_7 : decode cd_D_whenDone 7 = .ok (.ifnonnull 6, 3) := by decide +kernel
theorem dd_D_whenDone_10 : decode cd_D_whenDone 10 = .ok (.bipush (-2), 2) := by decide +kernel
theorem dd_D_whenDone_12 : decode cd_D_whenDone 12 = .ok (.ireturn, 1) := by decide +kernel
theorem dd_D_whenDone_13 : decode cd_D_whenDone 13 = .ok (.aload_n 0, 1) := by decide +kernel
theorem dd_D_whenDone_14 : decode cd_D_whenDone 14 = .ok (.iload_n 2, 1) := by decide +kernel
theorem dd_D_whenDone_15 : decode cd_D_whenDone 15 = .ok (.invokevirtual 47, 3) := by decide +kernel
theorem dd_D_whenDone_18 : decode cd_D_whenDone 18 = .ok (.astore 4, 2) := by decide +kernel
theorem dd_D_whenDone_20 : decode cd_D_whenDone 20 = .ok (.aload 4, 2) := by decide +kernel
theorem dd_D_whenDone_22 : decode cd_D_whenDone 22 = .ok (.ifnonnull 5, 3) := by decide +kernel
theorem dd_D_whenDone_25 : decode cd_D_whenDone 25 = .ok (.iconst (-1), 1) := by decide +kernel
theorem dd_D_whenDone_26 : decode cd_D_whenDone 26 = .ok (.ireturn, 1) := by decide +kernel
theorem dd_D_whenDone_27 : decode cd_D_whenDone 27 = .ok (.aload_n 0, 1) := by decide +kernel
theorem dd_D_whenDone_28 : decode cd_D_whenDone 28 = .ok (.invokevirtual 70, 3) := by decide +kernel
theorem dd_D_whenDone_31 : decode cd_D_whenDone 31 = .ok (.ifCond .eq 6, 3) := by decide +kernel
theorem dd_D_whenDone_34 : decode cd_D_whenDone 34 = .ok (.bipush (-4), 2) := by decide +kernel
theorem dd_D_whenDone_36 : decode cd_D_whenDone 36 = .ok (.ireturn, 1) := by decide +kernel
theorem dd_D_whenDone_37 : decode cd_D_whenDone 37 = .ok (.aload_n 0, 1) := by decide +kernel
theorem dd_D_whenDone_38 : decode cd_D_whenDone 38 = .ok (.aload 4, 2) := by decide +kernel
theorem dd_D_whenDone_40 : decode cd_D_whenDone 40 = .ok (.iconst 0, 1) := by decide +kernel
theorem dd_D_whenDone_41 : decode cd_D_whenDone 41 = .ok (.invokevirtual 73, 3) := by decide +kernel
theorem dd_D_whenDone_44 : decode cd_D_whenDone 44 = .ok (.astore 5, 2) := by decide +kernel
theorem dd_D_whenDone_46 : decode cd_D_whenDone 46 = .ok (.aload_n 3, 1) := by decide +kernel
theorem dd_D_whenDone_47 : decode cd_D_whenDone 47 = .ok (.invokevirtual 114, 3) := by decide +kernel
theorem dd_D_whenDone_50 : decode cd_D_whenDone 50 = .ok (.ifCond .eq 12, 3) := by decide +kernel
theorem dd_D_whenDone_53 : decode cd_D_whenDone 53 = .ok (.aload_n 0, 1) := by decide +kernel
theorem dd_D_whenDone_54 : decode cd_D_whenDone 54 = .ok (.aload 5, 2) := by decide +kernel
theorem dd_D_whenDone_56 : decode cd_D_whenDone 56 = .ok (.invokevirtual 84, 3) := by decide +kernel
theorem dd_D_whenDone_59 : decode cd_D_whenDone 59 = .ok (.goto 15, 3) := by decide +kernel
theorem dd_D_whenDone_62 : decode cd_D_whenDone 62 = .ok (.aload 5, 2) := by decide +kernel
theorem dd_D_whenDone_64 : decode cd_D_whenDone 64 = .ok (.iconst 0, 1) := by decide +kernel
theorem dd_D_whenDone_65 : decode cd_D_whenDone 65 = .ok (.putfield 91, 3) := by decide +kernel
theorem dd_D_whenDone_68 : decode cd_D_whenDone 68 = .ok (.aload 5, 2) := by decide +kernel
theorem dd_D_whenDone_70 : decode cd_D_whenDone 70 = .ok (.aload_n 3, 1) := by decide +kernel
end
section
/-! Part 02: decode rows of the class. -/
theorem dd_D_whenDone_71 : decode cd_D_whenDone 71 = .ok (.putfield 117, 3) := by decide +kernel
theorem dd_D_whenDone_74 : decode cd_D_whenDone 74 = .ok (.aload 5, 2) := by decide +kernel
theorem dd_D_whenDone_76 : decode cd_D_whenDone 76 = .ok (.getfield 88, 3) := by decide +kernel
theorem dd_D_whenDone_79 : decode cd_D_whenDone 79 = .ok (.ireturn, 1) := by decide +kernel
theorem dd_D_enter_0 : decode cd_D_enter 0 = .ok (.aload_n 0, 1) := by decide +kernel
theorem dd_D_enter_1 : decode cd_D_enter 1 = .ok (.iload_n 1, 1) := by decide +kernel
theorem dd_D_enter_2 : decode cd_D_enter 2 = .ok (.invokevirtual 66, 3) := by decide +kernel
theorem dd_D_enter_5 : decode cd_D_enter 5 = .ok (.astore_n 2, 1) := by decide +kernel
theorem dd_D_enter_6 : decode cd_D_enter 6 = .ok (.aload_n 2, 1) := by decide +kernel
theorem dd_D_enter_7 : decode cd_D_enter 7 = .ok (.ifnull 13, 3) := by decide +kernel
theorem dd_D_enter_10 : decode cd_D_enter 10 = .ok (.aload_n 2, 1) := by decide +kernel
theorem dd_D_enter_11 : decode cd_D_enter 11 = .ok (.getfield 120, 3) := by decide +kernel
theorem dd_D_enter_14 : decode cd_D_enter 14 = .ok (.sipush 200, 3) := by decide +kernel
theorem dd_D_enter_17 : decode cd_D_enter 17 = .ok (.if_icmp .lt 5, 3) := by decide +kernel
theorem dd_D_enter_20 : decode cd_D_enter 20 = .ok (.iconst 0, 1) := by decide +kernel
theorem dd_D_enter_21 : decode cd_D_enter 21 = .ok (.ireturn, 1) := by decide +kernel
theorem dd_D_enter_22 : decode cd_D_enter 22 = .ok (.aload_n 2, 1) := by decide +kernel
theorem dd_D_enter_23 : decode cd_D_enter 23 = .ok (.dup, 1) := by decide +kernel
theorem dd_D_enter_24 : decode cd_D_enter 24 = .ok (.getfield 120, 3) := by decide +kernel
theorem dd_D_enter_27 : decode cd_D_enter 27 = .ok (.iconst 1, 1) := by decide +kernel
theorem dd_D_enter_28 : decode cd_D_enter 28 = .ok (.iadd, 1) := by decide +kernel
theorem dd_D_enter_29 : decode cd_D_enter 29 = .ok (.putfield 120, 3) := by decide +kernel
theorem dd_D_enter_32 : decode cd_D_enter 32 = .ok (.iconst 1, 1) := by decide +kernel
theorem dd_D_enter_33 : decode cd_D_enter 33 = .ok (.ireturn, 1) := by decide +kernel
theorem dd_D_leave_0 : decode cd_D_leave 0 = .ok (.aload_n 0, 1) := by decide +kernel
theorem dd_D_leave_1 : decode cd_D_leave 1 = .ok (.iload_n 1, 1) := by decide +kernel
theorem dd_D_leave_2 : decode cd_D_leave 2 = .ok (.invokevirtual 66, 3) := by decide +kernel
theorem dd_D_leave_5 : decode cd_D_leave 5 = .ok (.astore_n 2, 1) := by decide +kernel
theorem dd_D_leave_6 : decode cd_D_leave 6 = .ok (.aload_n 2, 1) := by decide +kernel
theorem dd_D_leave_7 : decode cd_D_leave 7 = .ok (.ifnull 10, 3) := by decide +kernel
theorem dd_D_leave_10 : decode cd_D_leave 10 = .ok (.aload_n 2, 1) := by decide +kernel
theorem dd_D_leave_11 : decode cd_D_leave 11 = .ok (.getfield 120, 3) := by decide +kernel
theorem dd_D_leave_14 : decode cd_D_leave 14 = .ok (.ifCond .gt 5, 3) := by decide +kernel
theorem dd_D_leave_17 : decode cd_D_leave 17 = .ok (.iconst 0, 1) := by decide +kernel
theorem dd_D_leave_18 : decode cd_D_leave 18 = .ok (.ireturn, 1) := by decide +kernel
theorem dd_D_leave_19 : decode cd_D_leave 19 = .ok (.aload_n 2, 1) := by decide +kernel
theorem dd_D_leave_20 : decode cd_D_leave 20 = .ok (.dup, 1) := by decide +kernel
theorem dd_D_leave_21 : decode cd_D_leave 21 = .ok (.getfield 120, 3) := by decide +kernel
theorem dd_D_leave_24 : decode cd_D_leave 24 = .ok (.iconst 1, 1) := by decide +kernel
theorem dd_D_leave_25 : decode cd_D_leave 25 = .ok (.isub, 1) := by decide +kernel
theorem dd_D_leave_26 : decode cd_D_leave 26 = .ok (.putfield 120, 3) := by decide +kernel
theorem dd_D_leave_29 : decode cd_D_leave 29 = .ok (.aload_n 0, 1) := by decide +kernel
theorem dd_D_leave_30 : decode cd_D_leave 30 = .ok (.aload_n 2, 1) := by decide +kernel
theorem dd_D_leave_31 : decode cd_D_leave 31 = .ok (.invokevirtual 123, 3) := by decide +kernel
theorem dd_D_leave_34 : decode cd_D_leave 34 = .ok (.iconst 1, 1) := by decide +kernel
theorem dd_D_leave_35 : decode cd_D_leave 35 = .ok (.ireturn, 1) := by decide +kernel
theorem dd_D_cancel_0 : decode cd_D_cancel 0 = .ok (.aload_n 0, 1) := by decide +kernel
theorem dd_D_cancel_1 : decode cd_D_cancel 1 = .ok (.iload_n 1, 1) := by decide +kernel
theorem dd_D_cancel_2 : decode cd_D_cancel 2 = .ok (.invokevirtual 102, 3) := by decide +kernel
theorem dd_D_cancel_5 : decode cd_D_cancel 5 = .ok (.astore_n 2, 1) := by decide +kernel
theorem dd_D_cancel_6 : decode cd_D_cancel 6 = .ok (.aload_n 2, 1) := by decide +kernel
theorem dd_D_cancel_7 : decode cd_D_cancel 7 = .ok (.ifnull 17, 3) := by decide +kernel
theorem dd_D_cancel_10 : decode cd_D_cancel 10 = .ok (.aload_n 2, 1) := by decide +kernel
theorem dd_D_cancel_11 : decode cd_D_cancel 11 = .ok (.getfield 127, 3) := by decide +kernel
theorem dd_D_cancel_14 : decode cd_D_cancel 14 = .ok (.ifCond .ne 10, 3) := by decide +kernel
theorem dd_D_cancel_17 : decode cd_D_cancel 17 = .ok (.aload_n 2, 1) := by decide +kernel
theorem dd_D_cancel_18 : decode cd_D_cancel 18 = .ok (.invokevirtual 131, 3) := by decide +kernel
theorem dd_D_cancel_21 : decode cd_D_cancel 21 = .ok (.ifCond .ne 5, 3) := by decide +kernel
theorem dd_D_cancel_24 : decode cd_D_cancel 24 = .ok (.iconst 0, 1) := by decide +kernel
theorem dd_D_cancel_25 : decode cd_D_cancel 25 = .ok (.ireturn, 1) := by decide +kernel
theorem dd_D_cancel_26 : decode cd_D_cancel 26 = .ok (.aload_n 2, 1) := by decide +kernel
theorem dd_D_cancel_27 : decode cd_D_cancel 27 = .ok (.iconst 1, 1) := by decide +kernel
theorem dd_D_cancel_28 : decode cd_D_cancel 28 = .ok (.putfield 127, 3) := by decide +kernel
theorem dd_D_cancel_31 : decode cd_D_cancel 31 = .ok (.iconst 1, 1) := by decide +kernel
theorem dd_D_cancel_32 : decode cd_D_cancel 32 = .ok (.ireturn, 1) := by decide +kernel
theorem dd_D_hold_0 : decode cd_D_hold 0 = .ok (.aload_n 0, 1) := by decide +kernel
theorem dd_D_hold_1 : decode cd_D_hold 1 = .ok (.iload_n 1, 1) := by decide +kernel
theorem dd_D_hold_2 : decode cd_D_hold 2 = .ok (.invokevirtual 47, 3) := by decide +kernel
theorem dd_D_hold_5 : decode cd_D_hold 5 = .ok (.astore_n 3, 1) := by decide +kernel
theorem dd_D_hold_6 : decode cd_D_hold 6 = .ok (.aload_n 3, 1) := by decide +kernel
theorem dd_D_hold_7 : decode cd_D_hold 7 = .ok (.ifnull 10, 3) := by decide +kernel
theorem dd_D_hold_10 : decode cd_D_hold 10 = .ok (.aload_n 3, 1) := by decide +kernel
theorem dd_D_hold_11 : decode cd_D_hold 11 = .ok (.invokevirtual 51, 3) := by decide +kernel
theorem dd_D_hold_14 : decode cd_D_hold 14 = .ok (.ifCond .eq 5, 3) := by decide +kernel
theorem dd_D_hold_17 : decode cd_D_hold 17 = .ok (.iconst (-1), 1) := by decide +kernel
theorem dd_D_hold_18 : decode cd_D_hold 18 = .ok (.ireturn, 1) := by decide +kernel
theorem dd_D_hold_19 : decode cd_D_hold 19 = .ok (.iload_n 2, 1) := by decide +kernel
theorem dd_D_hold_20 : decode cd_D_hold 20 = .ok (.ifCond .eq 15, 3) := by decide +kernel
theorem dd_D_hold_23 : decode cd_D_hold 23 = .ok (.aload_n 3, 1) := by decide +kernel
theorem dd_D_hold_24 : decode cd_D_hold 24 = .ok (.getfield 134, 3) := by decide +kernel
theorem dd_D_hold_27 : decode cd_D_hold 27 = .ok (.bipush 100, 2) := by decide +kernel
theorem dd_D_hold_29 : decode cd_D_hold 29 = .ok (.if_icmp .lt 6, 3) := by decide +kernel
theorem dd_D_hold_32 : decode cd_D_hold 32 = .ok (.bipush (-4), 2) := by decide +kernel
theorem dd_D_hold_34 : decode cd_D_hold 34 = .ok (.ireturn, 1) := by decide +kernel
theorem dd_D_hold_35 : decode cd_D_hold 35 = .ok (.iload_n 2, 1) := by decide +kernel
theorem dd_D_hold_36 : decode cd_D_hold 36 = .ok (.ifCond .ne 13, 3) := by decide +kernel
theorem dd_D_hold_39 : decode cd_D_hold 39 = .ok (.aload_n 3, 1) := by decide +kernel
theorem dd_D_hold_40 : decode cd_D_hold 40 = .ok (.getfield 134, 3) := by decide +kernel
theorem dd_D_hold_43 : decode cd_D_hold 43 = .ok (.ifCond .gt 6, 3) := by decide +kernel
theorem dd_D_hold_46 : decode cd_D_hold 46 = .ok (.bipush (-8), 2) := by decide +kernel
theorem dd_D_hold_48 : decode cd_D_hold 48 = .ok (.ireturn, 1) := by decide +kernel
theorem dd_D_hold_49 : decode cd_D_hold 49 = .ok (.aload_n 3, 1) := by decide +kernel
theorem dd_D_hold_50 : decode cd_D_hold 50 = .ok (.dup, 1) := by decide +kernel
theorem dd_D_hold_51 : decode cd_D_hold 51 = .ok (.getfield 134, 3) := by decide +kernel
theorem dd_D_hold_54 : decode cd_D_hold 54 = .ok (.iload_n 2, 1) := by decide +kernel
theorem dd_D_hold_55 : decode cd_D_hold 55 = .ok (.ifCond .eq 7, 3) := by decide +kernel
theorem dd_D_hold_58 : decode cd_D_hold 58 = .ok (.iconst 1, 1) := by decide +kernel
theorem dd_D_hold_59 : decode cd_D_hold 59 = .ok (.goto 4, 3) := by decide +kernel
theorem dd_D_hold_62 : decode cd_D_hold 62 = .ok (.iconst (-1), 1) := by decide +kernel
theorem dd_D_hold_63 : decode cd_D_hold 63 = .ok (.iadd, 1) := by decide +kernel
theorem dd_D_hold_64 : decode cd_D_hold 64 = .ok (.putfield 134, 3) := by decide +kernel
theorem dd_D_hold_67 : decode cd_D_hold 67 = .ok (.aload_n 3, 1) := by decide +kernel
theorem dd_D_hold_68 : decode cd_D_hold 68 = .ok (.getfield 134, 3) := by decide +kernel
theorem dd_D_hold_71 : decode cd_D_hold 71 = .ok (.ireturn, 1) := by decide +kernel
theorem dd_D_begin_0 : decode cd_D_begin 0 = .ok (.iconst 0, 1) := by decide +kernel
theorem dd_D_begin_1 : decode cd_D_begin 1 = .ok (.istore_n 1, 1) := by decide +kernel
theorem dd_D_begin_2 : decode cd_D_begin 2 = .ok (.iload_n 1, 1) := by decide +kernel
theorem dd_D_begin_3 : decode cd_D_begin 3 = .ok (.sipush 160, 3) := by decide +kernel
theorem dd_D_begin_6 : decode cd_D_begin 6 = .ok (.if_icmp .gt 52, 3) := by decide +kernel
theorem dd_D_begin_9 : decode cd_D_begin 9 = .ok (.aload_n 0, 1) := by decide +kernel
theorem dd_D_begin_10 : decode cd_D_begin 10 = .ok (.invokevirtual 137, 3) := by decide +kernel
theorem dd_D_begin_13 : decode cd_D_begin 13 = .ok (.astore_n 2, 1) := by decide +kernel
theorem dd_D_begin_14 : decode cd_D_begin 14 = .ok (.aload_n 2, 1) := by decide +kernel
theorem dd_D_begin_15 : decode cd_D_begin 15 = .ok (.ifnonnull 6, 3) := by decide +kernel
theorem dd_D_begin_18 : decode cd_D_begin 18 = .ok (.bipush (-8), 2) := by decide +kernel
theorem dd_D_begin_20 : decode cd_D_begin 20 = .ok (.ireturn, 1) := by decide +kernel
theorem dd_D_begin_21 : decode cd_D_begin 21 = .ok (.aload_n 2, 1) := by decide +kernel
theorem dd_D_begin_22 : decode cd_D_begin 22 = .ok (.getfield 141, 3) := by decide +kernel
theorem dd_D_begin_25 : decode cd_D_begin 25 = .ok (.invokevirtual 144, 3) := by decide +kernel
theorem dd_D_begin_28 : decode cd_D_begin 28 = .ok (.aload_n 2, 1) := by decide +kernel
theorem dd_D_begin_29 : decode cd_D_begin 29 = .ok (.getfield 127, 3) := by decide +kernel
theorem dd_D_begin_32 : decode cd_D_begin 32 = .ok (.ifCond .ne 13, 3) := by decide +kernel
theorem dd_D_begin_35 : decode cd_D_begin 35 = .ok (.aload_n 0, 1) := by decide +kernel
theorem dd_D_begin_36 : decode cd_D_begin 36 = .ok (.aload_n 2, 1) := by decide +kernel
theorem dd_D_begin_37 : decode cd_D_begin 37 = .ok (.invokevirtual 147, 3) := by decide +kernel
theorem dd_D_begin_40 : decode cd_D_begin 40 = .ok (.aload_n 2, 1) := by decide +kernel
theorem dd_D_begin_41 : decode cd_D_begin 41 = .ok (.getfield 88, 3) := by decide +kernel
theorem dd_D_begin_44 : decode cd_D_begin 44 = .ok (.ireturn, 1) := by decide +kernel
theorem dd_D_begin_45 : decode cd_D_begin 45 = .ok (.aload_n 0, 1) := by decide +kernel
theorem dd_D_begin_46 : decode cd_D_begin 46 = .ok (.aload_n 2, 1) := by decide +kernel
theorem dd_D_begin_47 : decode cd_D_begin 47 = .ok (.bipush 6, 2) := by decide +kernel
theorem dd_D_begin_49 : decode cd_D_begin 49 = .ok (.invokevirtual 150, 3) := by decide +kernel
theorem dd_D_begin_52 : decode cd_D_begin 52 = .ok (.iinc 1 1, 3) := by decide +kernel
theorem dd_D_begin_55 : decode cd_D_begin 55 = .ok (.goto (-53), 3) := by decide +kernel
theorem dd_D_begin_58 : decode cd_D_begin 58 = .ok (.bipush (-8), 2) := by decide +kernel
theorem dd_D_begin_60 : decode cd_D_begin 60 = .ok (.ireturn, 1) := by decide +kernel
theorem dd_D_finish_0 : decode cd_D_finish 0 = .ok (.aload_n 0, 1) := by decide +kernel
theorem dd_D_finish_1 : decode cd_D_finish 1 = .ok (.iload_n 1, 1) := by decide +kernel
theorem dd_D_finish_2 : decode cd_D_finish 2 = .ok (.invokevirtual 102, 3) := by decide +kernel
theorem dd_D_finish_5 : decode cd_D_finish 5 = .ok (.astore_n 2, 1) := by decide +kernel
theorem dd_D_finish_6 : decode cd_D_finish 6 = .ok (.aload_n 2, 1) := by decide +kernel
theorem dd_D_finish_7 : decode cd_D_finish 7 = .ok (.ifnull 11, 3) := by decide +kernel
theorem dd_D_finish_10 : decode cd_D_finish 10 = .ok (.aload_n 2, 1) := by decide +kernel
theorem dd_D_finish_11 : decode cd_D_finish 11 = .ok (.getfield 91, 3) := by decide +kernel
theorem dd_D_finish_14 : decode cd_D_finish 14 = .ok (.iconst 3, 1) := by decide +kernel
theorem dd_D_finish_15 : decode cd_D_finish 15 = .ok (.if_icmp .eq 5, 3) := by decide +kernel
theorem dd_D_finish_18 : decode cd_D_finish 18 = .ok (.iconst 0, 1) := by decide +kernel
theorem dd_D_finish_19 : decode cd_D_finish 19 = .ok (.ireturn, 1) := by decide +kernel
theorem dd_D_finish_20 : decode cd_D_finish 20 = .ok (.aload_n 0, 1) := by decide +kernel
theorem dd_D_finish_21 : decode cd_D_finish 21 = .ok (.aload_n 2, 1) := by decide +kernel
theorem dd_D_finish_22 : decode cd_D_finish 22 = .ok (.invokevirtual 154, 3) := by decide +kernel
theorem dd_D_finish_25 : decode cd_D_finish 25 = .ok (.aload_n 0, 1) := by decide +kernel
theorem dd_D_finish_26 : decode cd_D_finish 26 = .ok (.aload_n 2, 1) := by decide +kernel
theorem dd_D_finish_27 : decode cd_D_finish 27 = .ok (.iconst 5, 1) := by decide +kernel
theorem dd_D_finish_28 : decode cd_D_finish 28 = .ok (.invokevirtual 150, 3) := by decide +kernel
theorem dd_D_finish_31 : decode cd_D_finish 31 = .ok (.iconst 1, 1) := by decide +kernel
theorem dd_D_finish_32 : decode cd_D_finish 32 = .ok (.ireturn, 1) := by decide +kernel
theorem dd_D_advance_0 : decode cd_D_advance 0 = .ok (.lload_n 1, 1) := by decide +kernel
theorem dd_D_advance_1 : decode cd_D_advance 1 = .ok (.lconst 0, 1) := by decide +kernel
theorem dd_D_advance_2 : decode cd_D_advance 2 = .ok (.lcmp, 1) := by decide +kernel
theorem dd_D_advance_3 : decode cd_D_advance 3 = .ok (.ifCond .ge 6, 3) := by decide +kernel
theorem dd_D_advance_6 : decode cd_D_advance 6 = .ok (.bipush (-9), 2) := by decide +kernel
theorem dd_D_advance_8 : decode cd_D_advance 8 = .ok (.ireturn, 1) := by decide +kernel
theorem dd_D_advance_9 : decode cd_D_advance 9 = .ok (.ldc2_w 157, 3) := by decide +kernel
theorem dd_D_advance_12 : decode cd_D_advance 12 = .ok (.aload_n 0, 1) := by decide +kernel
theorem dd_D_advance_13 : decode cd_D_advance 13 = .ok (.getfield 159, 3) := by decide +kernel
theorem dd_D_advance_16 : decode cd_D_advance 16 = .ok (.lsub, 1) := by decide +kernel
theorem dd_D_advance_17 : decode cd_D_advance 17 = .ok (.lstore_n 3, 1) := by decide +kernel
theorem dd_D_advance_18 : decode cd_D_advance 18 = .ok (.aload_n 0, 1) := by decide +kernel
theorem dd_D_advance_19 : decode cd_D_advance 19 = .ok (.dup, 1) := by decide +kernel
theorem dd_D_advance_20 : decode cd_D_advance 20 = .ok (.getfield 159, 3) := by decide +kernel
theorem dd_D_advance_23 : decode cd_D_advance 23 = .ok (.lload_n 1, 1) := by decide +kernel
theorem dd_D_advance_24 : decode cd_D_advance 24 = .ok (.lload_n 3, 1) := by decide +kernel
theorem dd_D_advance_25 : decode cd_D_advance 25 = .ok (.invokestatic 162, 3) := by decide +kernel
theorem dd_D_advance_28 : decode cd_D_advance 28 = .ok (.ladd, 1) := by decide +kernel
theorem dd_D_advance_29 : decode cd_D_advance 29 = .ok (.putfield 159, 3) := by decide +kernel
theorem dd_D_advance_32 : decode cd_D_advance 32 = .ok (.iconst 0, 1) := by decide +kernel
theorem dd_D_advance_33 : decode cd_D_advance 33 = .ok (.istore 5, 2) := by decide +kernel
theorem dd_D_advance_35 : decode cd_D_advance 35 = .ok (.aload_n 0, 1) := by decide +kernel
theorem dd_D_advance_36 : decode cd_D_advance 36 = .ok (.invokevirtual 165, 3) := by decide +kernel
theorem dd_D_advance_39 : decode cd_D_advance 39 = .ok (.astore 6, 2) := by decide +kernel
theorem dd_D_advance_41 : decode cd_D_advance 41 = .ok (.aload 6, 2) := by decide +kernel
theorem dd_D_advance_43 : decode cd_D_advance 43 = .ok (.ifnull 29, 3) := by decide +kernel
theorem dd_D_advance_46 : decode cd_D_advance 46 = .ok (.iload 5, 2) := by decide +kernel
theorem dd_D_advance_48 : decode cd_D_advance 48 = .ok (.sipush 160, 3) := by decide +kernel
theorem dd_D_advance_51 : decode cd_D_advance 51 = .ok (.if_icmp .ge 21, 3) := by decide +kernel
theorem dd_D_advance_54 : decode cd_D_advance 54 = .ok (.aload_n 0, 1) := by decide +kernel
theorem dd_D_advance_55 : decode cd_D_advance 55 = .ok (.aload 6, 2) := by decide +kernel
theorem dd_D_advance_57 : decode cd_D_advance 57 = .ok (.invokevirtual 84, 3) := by decide +kernel
theorem dd_D_advance_60 : decode cd_D_advance 60 = .ok (.iinc 5 1, 3) := by decide +kernel
theorem dd_D_advance_63 : decode cd_D_advance 63 = .ok (.aload_n 0, 1) := by decide +kernel
theorem dd_D_advance_64 : decode cd_D_advance 64 = .ok (.invokevirtual 165, 3) := by decide +kernel
theorem dd_D_advance_67 : decode cd_D_advance 67 = .ok (.astore 6, 2) := by decide +kernel
theorem dd_D_advance_69 : decode cd_D_advance 69 = .ok (.goto (-28), 3) := by decide +kernel
theorem dd_D_advance_72 : decode cd_D_advance 72 = .ok (.iload 5, 2) := by decide +kernel
theorem dd_D_advance_74 : decode cd_D_advance 74 = .ok (.ireturn, 1) := by decide +kernel
theorem dd_D_now_0 : decode cd_D_now 0 = .ok (.aload_n 0, 1) := by decide +kernel
theorem dd_D_now_1 : decode cd_D_now 1 = .ok (.getfield 159, 3) := by decide +kernel
theorem dd_D_now_4 : decode cd_D_now 4 = .ok (.lreturn, 1) := by decide +kernel
theorem dd_D_state_0 : decode cd_D_state 0 = .ok (.aload_n 0, 1) := by decide +kernel
theorem dd_D_state_1 : decode cd_D_state 1 = .ok (.iload_n 1, 1) := by decide +kernel
theorem dd_D_state_2 : decode cd_D_state 2 = .ok (.invokevirtual 102, 3) := by decide +kernel
theorem dd_D_state_5 : decode cd_D_state 5 = .ok (.astore_n 2, 1) := by decide +kernel
theorem dd_D_state_6 : decode cd_D_state 6 = .ok (.aload_n 2, 1) := by decide +kernel
theorem dd_D_state_7 : decode cd_D_state 7 = .ok (.ifnonnull 6, 3) := by decide +kernel
theorem dd_D_state_10 : decode cd_D_state 10 = .ok (.bipush (-3), 2) := by decide +kernel
theorem dd_D_state_12 : decode cd_D_state 12 = .ok (.ireturn, 1) := by decide +kernel
theorem dd_D_state_13 : decode cd_D_state 13 = .ok (.aload_n 2, 1) := by decide +kernel
theorem dd_D_state_14 : decode cd_D_state 14 = .ok (.getfield 127, 3) := by decide +kernel
theorem dd_D_state_17 : decode cd_D_state 17 = .ok (.ifCond .eq 13, 3) := by decide +kernel
theorem dd_D_state_20 : decode cd_D_state 20 = .ok (.aload_n 2, 1) := by decide +kernel
theorem dd_D_state_21 : decode cd_D_state 21 = .ok (.getfield 91, 3) := by decide +kernel
theorem dd_D_state_24 : decode cd_D_state 24 = .ok (.bipush 8, 2) := by decide +kernel
theorem dd_D_state_26 : decode cd_D_state 26 = .ok (.iadd, 1) := by decide +kernel
theorem dd_D_state_27 : decode cd_D_state 27 = .ok (.goto 7, 3) := by decide +kernel
theorem dd_D_state_30 : decode cd_D_state 30 = .ok (.aload_n 2, 1) := by decide +kernel
theorem dd_D_state_31 : decode cd_D_state 31 = .ok (.getfield 91, 3) := by decide +kernel
theorem dd_D_state_34 : decode cd_D_state 34 = .ok (.ireturn, 1) := by decide +kernel
theorem dd_D_queued_0 : decode cd_D_queued 0 = .ok (.aload_n 0, 1) := by decide +kernel
theorem dd_D_queued_1 : decode cd_D_queued 1 = .ok (.iload_n 1, 1) := by decide +kernel
theorem dd_D_queued_2 : decode cd_D_queued 2 = .ok (.invokevirtual 47, 3) := by decide +kernel
theorem dd_D_queued_5 : decode cd_D_queued 5 = .ok (.astore_n 2, 1) := by decide +kernel
theorem dd_D_queued_6 : decode cd_D_queued 6 = .ok (.aload_n 2, 1) := by decide +kernel
theorem dd_D_queued_7 : decode cd_D_queued 7 = .ok (.ifnonnull 7, 3) := by decide +kernel
theorem dd_D_queued_10 : decode cd_D_queued 10 = .ok (.iconst (-1), 1) := by decide +kernel
theorem dd_D_queued_11 : decode cd_D_queued 11 = .ok (.goto 7, 3) := by decide +kernel
theorem dd_D_queued_14 : decode cd_D_queued 14 = .ok (.aload_n 2, 1) := by decide +kernel
theorem dd_D_queued_15 : decode cd_D_queued 15 = .ok (.getfield 168, 3) := by decide +kernel
theorem dd_D_queued_18 : decode cd_D_queued 18 = .ok (.ireturn, 1) := by decide +kernel
theorem dd_D_through_0 : decode cd_D_through 0 = .ok (.aload_n 0, 1) := by decide +kernel
theorem dd_D_through_1 : decode cd_D_through 1 = .ok (.iload_n 1, 1) := by decide +kernel
theorem dd_D_through_2 : decode cd_D_through 2 = .ok (.invokevirtual 47, 3) := by decide +kernel
theorem dd_D_through_5 : decode cd_D_through 5 = .ok (.astore_n 2, 1) := by decide +kernel
theorem dd_D_through_6 : decode cd_D_through 6 = .ok (.aload_n 2, 1) := by decide +kernel
theorem dd_D_through_7 : decode cd_D_through 7 = .ok (.ifnonnull 7, 3) := by decide +kernel
theorem dd_D_through_10 : decode cd_D_through 10 = .ok (.iconst (-1), 1) := by decide +kernel
theorem dd_D_through_11 : decode cd_D_through 11 = .ok (.goto 7, 3) := by decide +kernel
theorem dd_D_through_14 : decode cd_D_through 14 = .ok (.aload_n 2, 1) := by decide +kernel
theorem dd_D_through_15 : decode cd_D_through 15 = .ok (.getfield 59, 3) := by decide +kernel
theorem dd_D_through_18 : decode cd_D_through 18 = .ok (.ireturn, 1) := by decide +kernel
theorem dd_D_peak_0 : decode cd_D_peak 0 = .ok (.aload_n 0, 1) := by decide +kernel
theorem dd_D_peak_1 : decode cd_D_peak 1 = .ok (.iload_n 1, 1) := by decide +kernel
theorem dd_D_peak_2 : decode cd_D_peak 2 = .ok (.invokevirtual 47, 3) := by decide +kernel
theorem dd_D_peak_5 : decode cd_D_peak 5 = .ok (.astore_n 2, 1) := by decide +kernel
theorem dd_D_peak_6 : decode cd_D_peak 6 = .ok (.aload_n 2, 1) := by decide +kernel
theorem dd_D_peak_7 : decode cd_D_peak 7 = .ok (.ifnonnull 7, 3) := by decide +kernel
theorem dd_D_peak_10 : decode cd_D_peak 10 = .ok (.iconst (-1), 1) := by decide +kernel
theorem dd_D_peak_11 : decode cd_D_peak 11 = .ok (.goto 7, 3) := by decide +kernel
theorem dd_D_peak_14 : decode cd_D_peak 14 = .ok (.aload_n 2, 1) := by decide +kernel
theorem dd_D_peak_15 : decode cd_D_peak 15 = .ok (.getfield 171, 3) := by decide +kernel
theorem dd_D_peak_18 : decode cd_D_peak 18 = .ok (.ireturn, 1) := by decide +kernel
theorem dd_D_count_0 : decode cd_D_count 0 = .ok (.aload_n 0, 1) := by decide +kernel
theorem dd_D_count_1 : decode cd_D_count 1 = .ok (.iload_n 1, 1) := by decide +kernel
theorem dd_D_count_2 : decode cd_D_count 2 = .ok (.invokevirtual 66, 3) := by decide +kernel
theorem dd_D_count_5 : decode cd_D_count 5 = .ok (.astore_n 2, 1) := by decide +kernel
theorem dd_D_count_6 : decode cd_D_count 6 = .ok (.aload_n 2, 1) := by decide +kernel
theorem dd_D_count_7 : decode cd_D_count 7 = .ok (.ifnonnull 8, 3) := by decide +kernel
theorem dd_D_count_10 : decode cd_D_count 10 = .ok (.bipush (-2), 2) := by decide +kernel
theorem dd_D_count_12 : decode cd_D_count 12 = .ok (.goto 12, 3) := by decide +kernel
theorem dd_D_count_15 : decode cd_D_count 15 = .ok (.aload_n 2, 1) := by decide +kernel
theorem dd_D_count_16 : decode cd_D_count 16 = .ok (.getfield 120, 3) := by decide +kernel
theorem dd_D_count_19 : decode cd_D_count 19 = .ok (.aload_n 2, 1) := by decide +kernel
theorem dd_D_count_20 : decode cd_D_count 20 = .ok (.getfield 81, 3) := by decide +kernel
theorem dd_D_count_23 : decode cd_D_count 23 = .ok (.iadd, 1) := by decide +kernel
theorem dd_D_count_24 : decode cd_D_count 24 = .ok (.ireturn, 1) := by decide +kernel
theorem dd_D_ready_0 : decode cd_D_ready 0 = .ok (.iconst 0, 1) := by decide +kernel
theorem dd_D_ready_1 : decode cd_D_ready 1 = .ok (.istore_n 1, 1) := by decide +kernel
theorem dd_D_ready_2 : decode cd_D_ready 2 = .ok (.iconst 0, 1) := by decide +kernel
theorem dd_D_ready_3 : decode cd_D_ready 3 = .ok (.istore_n 2, 1) := by decide +kernel
theorem dd_D_ready_4 : decode cd_D_ready 4 = .ok (.iload_n 2, 1) := by decide +kernel
theorem dd_D_ready_5 : decode cd_D_ready 5 = .ok (.aload_n 0, 1) := by decide +kernel
theorem dd_D_ready_6 : decode cd_D_ready 6 = .ok (.getfield 43, 3) := by decide +kernel
theorem dd_D_ready_9 : decode cd_D_ready 9 = .ok (.if_icmp .ge 28, 3) := by decide +kernel
theorem dd_D_ready_12 : decode cd_D_ready 12 = .ok (.aload_n 0, 1) := by decide +kernel
theorem dd_D_ready_13 : decode cd_D_ready 13 = .ok (.aload_n 0, 1) := by decide +kernel
theorem dd_D_ready_14 : decode cd_D_ready 14 = .ok (.getfield 24, 3) := by decide +kernel
theorem dd_D_ready_17 : decode cd_D_ready 17 = .ok (.iload_n 2, 1) := by decide +kernel
theorem dd_D_ready_18 : decode cd_D_ready 18 = .ok (.aaload, 1) := by decide +kernel
theorem dd_D_ready_19 : decode cd_D_ready 19 = .ok (.getfield 174, 3) := by decide +kernel
theorem dd_D_ready_22 : decode cd_D_ready 22 = .ok (.invokevirtual 177, 3) := by decide +kernel
theorem dd_D_ready_25 : decode cd_D_ready 25 = .ok (.ifCond .eq 6, 3) := by decide +kernel
theorem dd_D_ready_28 : decode cd_D_ready 28 = .ok (.iinc 1 1, 3) := by decide +kernel
theorem dd_D_ready_31 : decode cd_D_ready 31 = .ok (.iinc 2 1, 3) := by decide +kernel
theorem dd_D_ready_34 : decode cd_D_ready 34 = .ok (.goto (-30), 3) := by decide +kernel
theorem dd_D_ready_37 : decode cd_D_ready 37 = .ok (.iload_n 1, 1) := by decide +kernel
theorem dd_D_ready_38 : decode cd_D_ready 38 = .ok (.ireturn, 1) := by decide +kernel
theorem dd_D_queueAt_0 : decode cd_D_queueAt 0 = .ok (.iload_n 1, 1) := by decide +kernel
theorem dd_D_queueAt_1 : decode cd_D_queueAt 1 = .ok (.ifCond .lt 20, 3) := by decide +kernel
theorem dd_D_queueAt_4 : decode cd_D_queueAt 4 = .ok (.iload_n 1, 1) := by decide +kernel
theorem dd_D_queueAt_5 : decode cd_D_queueAt 5 = .ok (.aload_n 0, 1) := by decide +kernel
theorem dd_D_queueAt_6 : decode cd_D_queueAt 6 = .ok (.getfield 43, 3) := by decide +kernel
theorem dd_D_queueAt_9 : decode cd_D_queueAt 9 = .ok (.if_icmp .ge 12, 3) := by decide +kernel
theorem dd_D_queueAt_12 : decode cd_D_queueAt 12 = .ok (.aload_n 0, 1) := by decide +kernel
theorem dd_D_queueAt_13 : decode cd_D_queueAt 13 = .ok (.getfield 24, 3) := by decide +kernel
theorem dd_D_queueAt_16 : decode cd_D_queueAt 16 = .ok (.iload_n 1, 1) := by decide +kernel
theorem dd_D_queueAt_17 : decode cd_D_queueAt 17 = .ok (.aaload, 1) := by decide +kernel
theorem dd_D_queueAt_18 : decode cd_D_queueAt 18 = .ok (.goto 4, 3) := by decide +kernel
theorem dd_D_queueAt_21 : decode cd_D_queueAt 21 = .ok (.aconst_null, 1) := by decide +kernel
theorem dd_D_queueAt_22 : decode cd_D_queueAt 22 = .ok (.areturn, 1) := by decide +kernel
theorem dd_D_blockAt_0 : decode cd_D_blockAt 0 = .ok (.iload_n 1, 1) := by decide +kernel
theorem dd_D_blockAt_1 : decode cd_D_blockAt 1 = .ok (.ifCond .lt 20, 3) := by decide +kernel
theorem dd_D_blockAt_4 : decode cd_D_blockAt 4 = .ok (.iload_n 1, 1) := by decide +kernel
end
section
/-! Part 02: decode rows of the class. -/
theorem dd_D_blockAt_5 : decode cd_D_blockAt 5 = .ok (.aload_n 0, 1) := by decide +kernel
theorem dd_D_blockAt_6 : decode cd_D_blockAt 6 = .ok (.getfield 181, 3) := by decide +kernel
theorem dd_D_blockAt_9 : decode cd_D_blockAt 9 = .ok (.if_icmp .ge 12, 3) := by decide +kernel
theorem dd_D_blockAt_12 : decode cd_D_blockAt 12 = .ok (.aload_n 0, 1) := by decide +kernel
theorem dd_D_blockAt_13 : decode cd_D_blockAt 13 = .ok (.getfield 30, 3) := by decide +kernel
theorem dd_D_blockAt_16 : decode cd_D_blockAt 16 = .ok (.iload_n 1, 1) := by decide +kernel
theorem dd_D_blockAt_17 : decode cd_D_blockAt 17 = .ok (.aaload, 1) := by decide +kernel
theorem dd_D_blockAt_18 : decode cd_D_blockAt 18 = .ok (.goto 4, 3) := by decide +kernel
theorem dd_D_blockAt_21 : decode cd_D_blockAt 21 = .ok (.aconst_null, 1) := by decide +kernel
theorem dd_D_blockAt_22 : decode cd_D_blockAt 22 = .ok (.areturn, 1) := by decide +kernel
theorem dd_D_groupAt_0 : decode cd_D_groupAt 0 = .ok (.iload_n 1, 1) := by decide +kernel
theorem dd_D_groupAt_1 : decode cd_D_groupAt 1 = .ok (.ifCond .lt 17, 3) := by decide +kernel
theorem dd_D_groupAt_4 : decode cd_D_groupAt 4 = .ok (.iload_n 1, 1) := by decide +kernel
theorem dd_D_groupAt_5 : decode cd_D_groupAt 5 = .ok (.iconst 4, 1) := by decide +kernel
theorem dd_D_groupAt_6 : decode cd_D_groupAt 6 = .ok (.if_icmp .ge 12, 3) := by decide +kernel
theorem dd_D_groupAt_9 : decode cd_D_groupAt 9 = .ok (.aload_n 0, 1) := by decide +kernel
theorem dd_D_groupAt_10 : decode cd_D_groupAt 10 = .ok (.getfield 36, 3) := by decide +kernel
theorem dd_D_groupAt_13 : decode cd_D_groupAt 13 = .ok (.iload_n 1, 1) := by decide +kernel
theorem dd_D_groupAt_14 : decode cd_D_groupAt 14 = .ok (.aaload, 1) := by decide +kernel
theorem dd_D_groupAt_15 : decode cd_D_groupAt 15 = .ok (.goto 4, 3) := by decide +kernel
theorem dd_D_groupAt_18 : decode cd_D_groupAt 18 = .ok (.aconst_null, 1) := by decide +kernel
theorem dd_D_groupAt_19 : decode cd_D_groupAt 19 = .ok (.areturn, 1) := by decide +kernel
theorem dd_D_isFull_0 : decode cd_D_isFull 0 = .ok (.aload_n 0, 1) := by decide +kernel
theorem dd_D_isFull_1 : decode cd_D_isFull 1 = .ok (.getfield 181, 3) := by decide +kernel
theorem dd_D_isFull_4 : decode cd_D_isFull 4 = .ok (.sipush 160, 3) := by decide +kernel
theorem dd_D_isFull_7 : decode cd_D_isFull 7 = .ok (.if_icmp .lt 7, 3) := by decide +kernel
theorem dd_D_isFull_10 : decode cd_D_isFull 10 = .ok (.iconst 1, 1) := by decide +kernel
theorem dd_D_isFull_11 : decode cd_D_isFull 11 = .ok (.goto 4, 3) := by decide +kernel
theorem dd_D_isFull_14 : decode cd_D_isFull 14 = .ok (.iconst 0, 1) := by decide +kernel
theorem dd_D_isFull_15 : decode cd_D_isFull 15 = .ok (.ireturn, 1) := by decide +kernel
theorem dd_D_accept_0 : decode cd_D_accept 0 = .ok (.new 28, 3) := by decide +kernel
theorem dd_D_accept_3 : decode cd_D_accept 3 = .ok (.dup, 1) := by decide +kernel
theorem dd_D_accept_4 : decode cd_D_accept 4 = .ok (.aload_n 0, 1) := by decide +kernel
theorem dd_D_accept_5 : decode cd_D_accept 5 = .ok (.getfield 181, 3) := by decide +kernel
theorem dd_D_accept_8 : decode cd_D_accept 8 = .ok (.aload_n 1, 1) := by decide +kernel
theorem dd_D_accept_9 : decode cd_D_accept 9 = .ok (.iload_n 2, 1) := by decide +kernel
theorem dd_D_accept_10 : decode cd_D_accept 10 = .ok (.ifCond .eq 14, 3) := by decide +kernel
theorem dd_D_accept_13 : decode cd_D_accept 13 = .ok (.aload_n 1, 1) := by decide +kernel
theorem dd_D_accept_14 : decode cd_D_accept 14 = .ok (.invokevirtual 51, 3) := by decide +kernel
theorem dd_D_accept_17 : decode cd_D_accept 17 = .ok (.ifCond .ne 7, 3) := by decide +kernel
theorem dd_D_accept_20 : decode cd_D_accept 20 = .ok (.iconst 1, 1) := by decide +kernel
theorem dd_D_accept_21 : decode cd_D_accept 21 = .ok (.goto 4, 3) := by decide +kernel
theorem dd_D_accept_24 : decode cd_D_accept 24 = .ok (.iconst 0, 1) := by decide +kernel
theorem dd_D_accept_25 : decode cd_D_accept 25 = .ok (.invokespecial 184, 3) := by decide +kernel
theorem dd_D_accept_28 : decode cd_D_accept 28 = .ok (.astore_n 3, 1) := by decide +kernel
theorem dd_D_accept_29 : decode cd_D_accept 29 = .ok (.aload_n 0, 1) := by decide +kernel
theorem dd_D_accept_30 : decode cd_D_accept 30 = .ok (.getfield 30, 3) := by decide +kernel
theorem dd_D_accept_33 : decode cd_D_accept 33 = .ok (.aload_n 0, 1) := by decide +kernel
theorem dd_D_accept_34 : decode cd_D_accept 34 = .ok (.getfield 181, 3) := by decide +kernel
theorem dd_D_accept_37 : decode cd_D_accept 37 = .ok (.aload_n 3, 1) := by decide +kernel
theorem dd_D_accept_38 : decode cd_D_accept 38 = .ok (.aastore, 1) := by decide +kernel
theorem dd_D_accept_39 : decode cd_D_accept 39 = .ok (.aload_n 0, 1) := by decide +kernel
theorem dd_D_accept_40 : decode cd_D_accept 40 = .ok (.dup, 1) := by decide +kernel
theorem dd_D_accept_41 : decode cd_D_accept 41 = .ok (.getfield 181, 3) := by decide +kernel
theorem dd_D_accept_44 : decode cd_D_accept 44 = .ok (.iconst 1, 1) := by decide +kernel
theorem dd_D_accept_45 : decode cd_D_accept 45 = .ok (.iadd, 1) := by decide +kernel
theorem dd_D_accept_46 : decode cd_D_accept 46 = .ok (.putfield 181, 3) := by decide +kernel
theorem dd_D_accept_49 : decode cd_D_accept 49 = .ok (.aload_n 3, 1) := by decide +kernel
theorem dd_D_accept_50 : decode cd_D_accept 50 = .ok (.areturn, 1) := by decide +kernel
theorem dd_D_line_0 : decode cd_D_line 0 = .ok (.aload_n 1, 1) := by decide +kernel
theorem dd_D_line_1 : decode cd_D_line 1 = .ok (.iconst 2, 1) := by decide +kernel
theorem dd_D_line_2 : decode cd_D_line 2 = .ok (.putfield 91, 3) := by decide +kernel
theorem dd_D_line_5 : decode cd_D_line 5 = .ok (.aload_n 1, 1) := by decide +kernel
theorem dd_D_line_6 : decode cd_D_line 6 = .ok (.aload_n 0, 1) := by decide +kernel
theorem dd_D_line_7 : decode cd_D_line 7 = .ok (.getfield 187, 3) := by decide +kernel
theorem dd_D_line_10 : decode cd_D_line 10 = .ok (.putfield 190, 3) := by decide +kernel
theorem dd_D_line_13 : decode cd_D_line 13 = .ok (.aload_n 0, 1) := by decide +kernel
theorem dd_D_line_14 : decode cd_D_line 14 = .ok (.dup, 1) := by decide +kernel
theorem dd_D_line_15 : decode cd_D_line 15 = .ok (.getfield 187, 3) := by decide +kernel
theorem dd_D_line_18 : decode cd_D_line 18 = .ok (.iconst 1, 1) := by decide +kernel
theorem dd_D_line_19 : decode cd_D_line 19 = .ok (.iadd, 1) := by decide +kernel
theorem dd_D_line_20 : decode cd_D_line 20 = .ok (.putfield 187, 3) := by decide +kernel
theorem dd_D_line_23 : decode cd_D_line 23 = .ok (.aload_n 1, 1) := by decide +kernel
theorem dd_D_line_24 : decode cd_D_line 24 = .ok (.getfield 141, 3) := by decide +kernel
theorem dd_D_line_27 : decode cd_D_line 27 = .ok (.aload_n 1, 1) := by decide +kernel
theorem dd_D_line_28 : decode cd_D_line 28 = .ok (.invokevirtual 193, 3) := by decide +kernel
theorem dd_D_line_31 : decode cd_D_line 31 = .ok (.return_, 1) := by decide +kernel
theorem dd_D_deadlineIn_0 : decode cd_D_deadlineIn 0 = .ok (.lload_n 1, 1) := by decide +kernel
theorem dd_D_deadlineIn_1 : decode cd_D_deadlineIn 1 = .ok (.ldc2_w 196, 3) := by decide +kernel
theorem dd_D_deadlineIn_4 : decode cd_D_deadlineIn 4 = .ok (.aload_n 0, 1) := by decide +kernel
theorem dd_D_deadlineIn_5 : decode cd_D_deadlineIn 5 = .ok (.getfield 159, 3) := by decide +kernel
theorem dd_D_deadlineIn_8 : decode cd_D_deadlineIn 8 = .ok (.lsub, 1) := by decide +kernel
theorem dd_D_deadlineIn_9 : decode cd_D_deadlineIn 9 = .ok (.lcmp, 1) := by decide +kernel
theorem dd_D_deadlineIn_10 : decode cd_D_deadlineIn 10 = .ok (.ifCond .lt 9, 3) := by decide +kernel
theorem dd_D_deadlineIn_13 : decode cd_D_deadlineIn 13 = .ok (.ldc2_w 196, 3) := by decide +kernel
theorem dd_D_deadlineIn_16 : decode cd_D_deadlineIn 16 = .ok (.goto 9, 3) := by decide +kernel
theorem dd_D_deadlineIn_19 : decode cd_D_deadlineIn 19 = .ok (.aload_n 0, 1) := by decide +kernel
theorem dd_D_deadlineIn_20 : decode cd_D_deadlineIn 20 = .ok (.getfield 159, 3) := by decide +kernel
theorem dd_D_deadlineIn_23 : decode cd_D_deadlineIn 23 = .ok (.lload_n 1, 1) := by decide +kernel
theorem dd_D_deadlineIn_24 : decode cd_D_deadlineIn 24 = .ok (.ladd, 1) := by decide +kernel
theorem dd_D_deadlineIn_25 : decode cd_D_deadlineIn 25 = .ok (.lreturn, 1) := by decide +kernel
theorem dd_D_nextDue_0 : decode cd_D_nextDue 0 = .ok (.aconst_null, 1) := by decide +kernel
theorem dd_D_nextDue_1 : decode cd_D_nextDue 1 = .ok (.astore_n 1, 1) := by decide +kernel
theorem dd_D_nextDue_2 : decode cd_D_nextDue 2 = .ok (.iconst 0, 1) := by decide +kernel
theorem dd_D_nextDue_3 : decode cd_D_nextDue 3 = .ok (.istore_n 2, 1) := by decide +kernel
theorem dd_D_nextDue_4 : decode cd_D_nextDue 4 = .ok (.iload_n 2, 1) := by decide +kernel
theorem dd_D_nextDue_5 : decode cd_D_nextDue 5 = .ok (.aload_n 0, 1) := by decide +kernel
theorem dd_D_nextDue_6 : decode cd_D_nextDue 6 = .ok (.getfield 181, 3) := by decide +kernel
theorem dd_D_nextDue_9 : decode cd_D_nextDue 9 = .ok (.if_icmp .ge 66, 3) := by decide +kernel
theorem dd_D_nextDue_12 : decode cd_D_nextDue 12 = .ok (.aload_n 0, 1) := by decide +kernel
theorem dd_D_nextDue_13 : decode cd_D_nextDue 13 = .ok (.getfield 30, 3) := by decide +kernel
theorem dd_D_nextDue_16 : decode cd_D_nextDue 16 = .ok (.iload_n 2, 1) := by decide +kernel
theorem dd_D_nextDue_17 : decode cd_D_nextDue 17 = .ok (.aaload, 1) := by decide +kernel
theorem dd_D_nextDue_18 : decode cd_D_nextDue 18 = .ok (.astore_n 3, 1) := by decide +kernel
theorem dd_D_nextDue_19 : decode cd_D_nextDue 19 = .ok (.aload_n 3, 1) := by decide +kernel
theorem dd_D_nextDue_20 : decode cd_D_nextDue 20 = .ok (.getfield 91, 3) := by decide +kernel
theorem dd_D_nextDue_23 : decode cd_D_nextDue 23 = .ok (.iconst 1, 1) := by decide +kernel
theorem dd_D_nextDue_24 : decode cd_D_nextDue 24 = .ok (.if_icmp .ne 19, 3) := by decide +kernel
theorem dd_D_nextDue_27 : decode cd_D_nextDue 27 = .ok (.aload_n 3, 1) := by decide +kernel
theorem dd_D_nextDue_28 : decode cd_D_nextDue 28 = .ok (.getfield 98, 3) := by decide +kernel
theorem dd_D_nextDue_31 : decode cd_D_nextDue 31 = .ok (.aload_n 0, 1) := by decide +kernel
theorem dd_D_nextDue_32 : decode cd_D_nextDue 32 = .ok (.getfield 159, 3) := by decide +kernel
theorem dd_D_nextDue_35 : decode cd_D_nextDue 35 = .ok (.lcmp, 1) := by decide +kernel
theorem dd_D_nextDue_36 : decode cd_D_nextDue 36 = .ok (.ifCond .gt 7, 3) := by decide +kernel
theorem dd_D_nextDue_39 : decode cd_D_nextDue 39 = .ok (.iconst 1, 1) := by decide +kernel
theorem dd_D_nextDue_40 : decode cd_D_nextDue 40 = .ok (.goto 4, 3) := by decide +kernel
theorem dd_D_nextDue_43 : decode cd_D_nextDue 43 = .ok (.iconst 0, 1) := by decide +kernel
theorem dd_D_nextDue_44 : decode cd_D_nextDue 44 = .ok (.istore 4, 2) := by decide +kernel
theorem dd_D_nextDue_46 : decode cd_D_nextDue 46 = .ok (.iload 4, 2) := by decide +kernel
theorem dd_D_nextDue_48 : decode cd_D_nextDue 48 = .ok (.ifCond .eq 21, 3) := by decide +kernel
theorem dd_D_nextDue_51 : decode cd_D_nextDue 51 = .ok (.aload_n 1, 1) := by decide +kernel
theorem dd_D_nextDue_52 : decode cd_D_nextDue 52 = .ok (.ifnull 15, 3) := by decide +kernel
theorem dd_D_nextDue_55 : decode cd_D_nextDue 55 = .ok (.aload_n 3, 1) := by decide +kernel
theorem dd_D_nextDue_56 : decode cd_D_nextDue 56 = .ok (.getfield 98, 3) := by decide +kernel
theorem dd_D_nextDue_59 : decode cd_D_nextDue 59 = .ok (.aload_n 1, 1) := by decide +kernel
theorem dd_D_nextDue_60 : decode cd_D_nextDue 60 = .ok (.getfield 98, 3) := by decide +kernel
theorem dd_D_nextDue_63 : decode cd_D_nextDue 63 = .ok (.lcmp, 1) := by decide +kernel
theorem dd_D_nextDue_64 : decode cd_D_nextDue 64 = .ok (.ifCond .ge 5, 3) := by decide +kernel
theorem dd_D_nextDue_67 : decode cd_D_nextDue 67 = .ok (.aload_n 3, 1) := by decide +kernel
theorem dd_D_nextDue_68 : decode cd_D_nextDue 68 = .ok (.astore_n 1, 1) := by decide +kernel
theorem dd_D_nextDue_69 : decode cd_D_nextDue 69 = .ok (.iinc 2 1, 3) := by decide +kernel
theorem dd_D_nextDue_72 : decode cd_D_nextDue 72 = .ok (.goto (-68), 3) := by decide +kernel
theorem dd_D_nextDue_75 : decode cd_D_nextDue 75 = .ok (.aload_n 1, 1) := by decide +kernel
theorem dd_D_nextDue_76 : decode cd_D_nextDue 76 = .ok (.areturn, 1) := by decide +kernel
theorem dd_D_wouldDeadlock_0 : decode cd_D_wouldDeadlock 0 = .ok (.aload_n 1, 1) := by decide +kernel
theorem dd_D_wouldDeadlock_1 : decode cd_D_wouldDeadlock 1 = .ok (.astore_n 3, 1) := by decide +kernel
theorem dd_D_wouldDeadlock_2 : decode cd_D_wouldDeadlock 2 = .ok (.aload_n 3, 1) := by decide +kernel
theorem dd_D_wouldDeadlock_3 : decode cd_D_wouldDeadlock 3 = .ok (.ifnull 108, 3) := by decide +kernel
theorem dd_D_wouldDeadlock_6 : decode cd_D_wouldDeadlock 6 = .ok (.aload_n 3, 1) := by decide +kernel
theorem dd_D_wouldDeadlock_7 : decode cd_D_wouldDeadlock 7 = .ok (.invokevirtual 51, 3) := by decide +kernel
theorem dd_D_wouldDeadlock_10 : decode cd_D_wouldDeadlock 10 = .ok (.ifCond .ne 101, 3) := by decide +kernel
theorem dd_D_wouldDeadlock_13 : decode cd_D_wouldDeadlock 13 = .ok (.aload_n 3, 1) := by decide +kernel
theorem dd_D_wouldDeadlock_14 : decode cd_D_wouldDeadlock 14 = .ok (.getfield 198, 3) := by decide +kernel
theorem dd_D_wouldDeadlock_17 : decode cd_D_wouldDeadlock 17 = .ok (.iconst 1, 1) := by decide +kernel
theorem dd_D_wouldDeadlock_18 : decode cd_D_wouldDeadlock 18 = .ok (.if_icmp .eq 12, 3) := by decide +kernel
theorem dd_D_wouldDeadlock_21 : decode cd_D_wouldDeadlock 21 = .ok (.iload_n 2, 1) := by decide +kernel
theorem dd_D_wouldDeadlock_22 : decode cd_D_wouldDeadlock 22 = .ok (.ifCond .eq 12, 3) := by decide +kernel
theorem dd_D_wouldDeadlock_25 : decode cd_D_wouldDeadlock 25 = .ok (.aload_n 3, 1) := by decide +kernel
theorem dd_D_wouldDeadlock_26 : decode cd_D_wouldDeadlock 26 = .ok (.aload_n 1, 1) := by decide +kernel
theorem dd_D_wouldDeadlock_27 : decode cd_D_wouldDeadlock 27 = .ok (.if_acmp .ne 7, 3) := by decide +kernel
theorem dd_D_wouldDeadlock_30 : decode cd_D_wouldDeadlock 30 = .ok (.iconst 1, 1) := by decide +kernel
theorem dd_D_wouldDeadlock_31 : decode cd_D_wouldDeadlock 31 = .ok (.goto 4, 3) := by decide +kernel
theorem dd_D_wouldDeadlock_34 : decode cd_D_wouldDeadlock 34 = .ok (.iconst 0, 1) := by decide +kernel
theorem dd_D_wouldDeadlock_35 : decode cd_D_wouldDeadlock 35 = .ok (.istore 4, 2) := by decide +kernel
theorem dd_D_wouldDeadlock_37 : decode cd_D_wouldDeadlock 37 = .ok (.aload_n 0, 1) := by decide +kernel
theorem dd_D_wouldDeadlock_38 : decode cd_D_wouldDeadlock 38 = .ok (.astore 5, 2) := by decide +kernel
theorem dd_D_wouldDeadlock_40 : decode cd_D_wouldDeadlock 40 = .ok (.aload 5, 2) := by decide +kernel
theorem dd_D_wouldDeadlock_42 : decode cd_D_wouldDeadlock 42 = .ok (.ifnull 61, 3) := by decide +kernel
theorem dd_D_wouldDeadlock_45 : decode cd_D_wouldDeadlock 45 = .ok (.aload 5, 2) := by decide +kernel
theorem dd_D_wouldDeadlock_47 : decode cd_D_wouldDeadlock 47 = .ok (.getfield 201, 3) := by decide +kernel
theorem dd_D_wouldDeadlock_50 : decode cd_D_wouldDeadlock 50 = .ok (.ifCond .eq 16, 3) := by decide +kernel
theorem dd_D_wouldDeadlock_53 : decode cd_D_wouldDeadlock 53 = .ok (.aload 5, 2) := by decide +kernel
theorem dd_D_wouldDeadlock_55 : decode cd_D_wouldDeadlock 55 = .ok (.getfield 141, 3) := by decide +kernel
theorem dd_D_wouldDeadlock_58 : decode cd_D_wouldDeadlock 58 = .ok (.aload_n 3, 1) := by decide +kernel
theorem dd_D_wouldDeadlock_59 : decode cd_D_wouldDeadlock 59 = .ok (.if_acmp .ne 7, 3) := by decide +kernel
theorem dd_D_wouldDeadlock_62 : decode cd_D_wouldDeadlock 62 = .ok (.iconst 1, 1) := by decide +kernel
theorem dd_D_wouldDeadlock_63 : decode cd_D_wouldDeadlock 63 = .ok (.goto 4, 3) := by decide +kernel
theorem dd_D_wouldDeadlock_66 : decode cd_D_wouldDeadlock 66 = .ok (.iconst 0, 1) := by decide +kernel
theorem dd_D_wouldDeadlock_67 : decode cd_D_wouldDeadlock 67 = .ok (.istore 6, 2) := by decide +kernel
theorem dd_D_wouldDeadlock_69 : decode cd_D_wouldDeadlock 69 = .ok (.iload 4, 2) := by decide +kernel
theorem dd_D_wouldDeadlock_71 : decode cd_D_wouldDeadlock 71 = .ok (.ifCond .ne 8, 3) := by decide +kernel
theorem dd_D_wouldDeadlock_74 : decode cd_D_wouldDeadlock 74 = .ok (.iload 6, 2) := by decide +kernel
theorem dd_D_wouldDeadlock_76 : decode cd_D_wouldDeadlock 76 = .ok (.ifCond .eq 17, 3) := by decide +kernel
theorem dd_D_wouldDeadlock_79 : decode cd_D_wouldDeadlock 79 = .ok (.aload 5, 2) := by decide +kernel
theorem dd_D_wouldDeadlock_81 : decode cd_D_wouldDeadlock 81 = .ok (.getfield 141, 3) := by decide +kernel
theorem dd_D_wouldDeadlock_84 : decode cd_D_wouldDeadlock 84 = .ok (.aload_n 3, 1) := by decide +kernel
theorem dd_D_wouldDeadlock_85 : decode cd_D_wouldDeadlock 85 = .ok (.invokevirtual 55, 3) := by decide +kernel
theorem dd_D_wouldDeadlock_88 : decode cd_D_wouldDeadlock 88 = .ok (.ifCond .eq 5, 3) := by decide +kernel
theorem dd_D_wouldDeadlock_91 : decode cd_D_wouldDeadlock 91 = .ok (.iconst 1, 1) := by decide +kernel
theorem dd_D_wouldDeadlock_92 : decode cd_D_wouldDeadlock 92 = .ok (.ireturn, 1) := by decide +kernel
theorem dd_D_wouldDeadlock_93 : decode cd_D_wouldDeadlock 93 = .ok (.aload 5, 2) := by decide +kernel
theorem dd_D_wouldDeadlock_95 : decode cd_D_wouldDeadlock 95 = .ok (.getfield 110, 3) := by decide +kernel
theorem dd_D_wouldDeadlock_98 : decode cd_D_wouldDeadlock 98 = .ok (.astore 5, 2) := by decide +kernel
theorem dd_D_wouldDeadlock_100 : decode cd_D_wouldDeadlock 100 = .ok (.goto (-60), 3) := by decide +kernel
theorem dd_D_wouldDeadlock_103 : decode cd_D_wouldDeadlock 103 = .ok (.aload_n 3, 1) := by decide +kernel
theorem dd_D_wouldDeadlock_104 : decode cd_D_wouldDeadlock 104 = .ok (.getfield 62, 3) := by decide +kernel
theorem dd_D_wouldDeadlock_107 : decode cd_D_wouldDeadlock 107 = .ok (.astore_n 3, 1) := by decide +kernel
theorem dd_D_wouldDeadlock_108 : decode cd_D_wouldDeadlock 108 = .ok (.goto (-106), 3) := by decide +kernel
theorem dd_D_wouldDeadlock_111 : decode cd_D_wouldDeadlock 111 = .ok (.iconst 0, 1) := by decide +kernel
theorem dd_D_wouldDeadlock_112 : decode cd_D_wouldDeadlock 112 = .ok (.ireturn, 1) := by decide +kernel
theorem dd_D_choose_0 : decode cd_D_choose 0 = .ok (.aconst_null, 1) := by decide +kernel
theorem dd_D_choose_1 : decode cd_D_choose 1 = .ok (.astore_n 1, 1) := by decide +kernel
theorem dd_D_choose_2 : decode cd_D_choose 2 = .ok (.iconst 0, 1) := by decide +kernel
theorem dd_D_choose_3 : decode cd_D_choose 3 = .ok (.istore_n 2, 1) := by decide +kernel
theorem dd_D_choose_4 : decode cd_D_choose 4 = .ok (.iload_n 2, 1) := by decide +kernel
theorem dd_D_choose_5 : decode cd_D_choose 5 = .ok (.aload_n 0, 1) := by decide +kernel
theorem dd_D_choose_6 : decode cd_D_choose 6 = .ok (.getfield 43, 3) := by decide +kernel
theorem dd_D_choose_9 : decode cd_D_choose 9 = .ok (.if_icmp .ge 41, 3) := by decide +kernel
theorem dd_D_choose_12 : decode cd_D_choose 12 = .ok (.aload_n 0, 1) := by decide +kernel
theorem dd_D_choose_13 : decode cd_D_choose 13 = .ok (.getfield 24, 3) := by decide +kernel
theorem dd_D_choose_16 : decode cd_D_choose 16 = .ok (.iload_n 2, 1) := by decide +kernel
theorem dd_D_choose_17 : decode cd_D_choose 17 = .ok (.aaload, 1) := by decide +kernel
theorem dd_D_choose_18 : decode cd_D_choose 18 = .ok (.getfield 174, 3) := by decide +kernel
theorem dd_D_choose_21 : decode cd_D_choose 21 = .ok (.astore_n 3, 1) := by decide +kernel
theorem dd_D_choose_22 : decode cd_D_choose 22 = .ok (.aload_n 0, 1) := by decide +kernel
theorem dd_D_choose_23 : decode cd_D_choose 23 = .ok (.aload_n 3, 1) := by decide +kernel
theorem dd_D_choose_24 : decode cd_D_choose 24 = .ok (.invokevirtual 177, 3) := by decide +kernel
theorem dd_D_choose_27 : decode cd_D_choose 27 = .ok (.ifCond .eq 17, 3) := by decide +kernel
theorem dd_D_choose_30 : decode cd_D_choose 30 = .ok (.aload_n 1, 1) := by decide +kernel
theorem dd_D_choose_31 : decode cd_D_choose 31 = .ok (.ifnull 11, 3) := by decide +kernel
theorem dd_D_choose_34 : decode cd_D_choose 34 = .ok (.aload_n 3, 1) := by decide +kernel
theorem dd_D_choose_35 : decode cd_D_choose 35 = .ok (.aload_n 1, 1) := by decide +kernel
theorem dd_D_choose_36 : decode cd_D_choose 36 = .ok (.invokevirtual 204, 3) := by decide +kernel
theorem dd_D_choose_39 : decode cd_D_choose 39 = .ok (.ifCond .eq 5, 3) := by decide +kernel
theorem dd_D_choose_42 : decode cd_D_choose 42 = .ok (.aload_n 3, 1) := by decide +kernel
theorem dd_D_choose_43 : decode cd_D_choose 43 = .ok (.astore_n 1, 1) := by decide +kernel
theorem dd_D_choose_44 : decode cd_D_choose 44 = .ok (.iinc 2 1, 3) := by decide +kernel
theorem dd_D_choose_47 : decode cd_D_choose 47 = .ok (.goto (-43), 3) := by decide +kernel
theorem dd_D_choose_50 : decode cd_D_choose 50 = .ok (.aload_n 1, 1) := by decide +kernel
theorem dd_D_choose_51 : decode cd_D_choose 51 = .ok (.areturn, 1) := by decide +kernel
theorem dd_D_mayStart_0 : decode cd_D_mayStart 0 = .ok (.aload_n 1, 1) := by decide +kernel
theorem dd_D_mayStart_1 : decode cd_D_mayStart 1 = .ok (.ifnull 10, 3) := by decide +kernel
theorem dd_D_mayStart_4 : decode cd_D_mayStart 4 = .ok (.aload_n 1, 1) := by decide +kernel
theorem dd_D_mayStart_5 : decode cd_D_mayStart 5 = .ok (.invokevirtual 207, 3) := by decide +kernel
theorem dd_D_mayStart_8 : decode cd_D_mayStart 8 = .ok (.ifCond .ne 5, 3) := by decide +kernel
theorem dd_D_mayStart_11 : decode cd_D_mayStart 11 = .ok (.iconst 0, 1) := by decide +kernel
theorem dd_D_mayStart_12 : decode cd_D_mayStart 12 = .ok (.ireturn, 1) := by decide +kernel
theorem dd_D_mayStart_13 : decode cd_D_mayStart 13 = .ok (.aload_n 1, 1) := by decide +kernel
theorem dd_D_mayStart_14 : decode cd_D_mayStart 14 = .ok (.getfield 127, 3) := by decide +kernel
theorem dd_D_mayStart_17 : decode cd_D_mayStart 17 = .ok (.ifCond .ne 21, 3) := by decide +kernel
theorem dd_D_mayStart_20 : decode cd_D_mayStart 20 = .ok (.aload_n 1, 1) := by decide +kernel
theorem dd_D_mayStart_21 : decode cd_D_mayStart 21 = .ok (.getfield 110, 3) := by decide +kernel
theorem dd_D_mayStart_24 : decode cd_D_mayStart 24 = .ok (.ifnonnull 14, 3) := by decide +kernel
theorem dd_D_mayStart_27 : decode cd_D_mayStart 27 = .ok (.aload_n 0, 1) := by decide +kernel
theorem dd_D_mayStart_28 : decode cd_D_mayStart 28 = .ok (.getfield 210, 3) := by decide +kernel
theorem dd_D_mayStart_31 : decode cd_D_mayStart 31 = .ok (.aload_n 0, 1) := by decide +kernel
theorem dd_D_mayStart_32 : decode cd_D_mayStart 32 = .ok (.getfield 18, 3) := by decide +kernel
theorem dd_D_mayStart_35 : decode cd_D_mayStart 35 = .ok (.if_icmp .ge 7, 3) := by decide +kernel
theorem dd_D_mayStart_38 : decode cd_D_mayStart 38 = .ok (.iconst 1, 1) := by decide +kernel
theorem dd_D_mayStart_39 : decode cd_D_mayStart 39 = .ok (.goto 4, 3) := by decide +kernel
theorem dd_D_mayStart_42 : decode cd_D_mayStart 42 = .ok (.iconst 0, 1) := by decide +kernel
theorem dd_D_mayStart_43 : decode cd_D_mayStart 43 = .ok (.ireturn, 1) := by decide +kernel
theorem dd_D_start_0 : decode cd_D_start 0 = .ok (.aload_n 1, 1) := by decide +kernel
theorem dd_D_start_1 : decode cd_D_start 1 = .ok (.iconst 3, 1) := by decide +kernel
theorem dd_D_start_2 : decode cd_D_start 2 = .ok (.putfield 91, 3) := by decide +kernel
theorem dd_D_start_5 : decode cd_D_start 5 = .ok (.aload_n 1, 1) := by decide +kernel
theorem dd_D_start_6 : decode cd_D_start 6 = .ok (.getfield 110, 3) := by decide +kernel
theorem dd_D_start_9 : decode cd_D_start 9 = .ok (.ifnonnull 13, 3) := by decide +kernel
theorem dd_D_start_12 : decode cd_D_start 12 = .ok (.aload_n 0, 1) := by decide +kernel
theorem dd_D_start_13 : decode cd_D_start 13 = .ok (.dup, 1) := by decide +kernel
theorem dd_D_start_14 : decode cd_D_start 14 = .ok (.getfield 210, 3) := by decide +kernel
theorem dd_D_start_17 : decode cd_D_start 17 = .ok (.iconst 1, 1) := by decide +kernel
theorem dd_D_start_18 : decode cd_D_start 18 = .ok (.iadd, 1) := by decide +kernel
theorem dd_D_start_19 : decode cd_D_start 19 = .ok (.putfield 210, 3) := by decide +kernel
theorem dd_D_start_22 : decode cd_D_start 22 = .ok (.aload_n 1, 1) := by decide +kernel
theorem dd_D_start_23 : decode cd_D_start 23 = .ok (.getfield 201, 3) := by decide +kernel
theorem dd_D_start_26 : decode cd_D_start 26 = .ok (.ifCond .eq 11, 3) := by decide +kernel
theorem dd_D_start_29 : decode cd_D_start 29 = .ok (.aload_n 1, 1) := by decide +kernel
theorem dd_D_start_30 : decode cd_D_start 30 = .ok (.getfield 141, 3) := by decide +kernel
theorem dd_D_start_33 : decode cd_D_start 33 = .ok (.iconst 1, 1) := by decide +kernel
theorem dd_D_start_34 : decode cd_D_start 34 = .ok (.putfield 213, 3) := by decide +kernel
theorem dd_D_start_37 : decode cd_D_start 37 = .ok (.aload_n 1, 1) := by decide +kernel
theorem dd_D_start_38 : decode cd_D_start 38 = .ok (.getfield 141, 3) := by decide +kernel
theorem dd_D_start_41 : decode cd_D_start 41 = .ok (.astore_n 2, 1) := by decide +kernel
theorem dd_D_start_42 : decode cd_D_start 42 = .ok (.aload_n 2, 1) := by decide +kernel
theorem dd_D_start_43 : decode cd_D_start 43 = .ok (.ifnull 36, 3) := by decide +kernel
theorem dd_D_start_46 : decode cd_D_start 46 = .ok (.aload_n 2, 1) := by decide +kernel
theorem dd_D_start_47 : decode cd_D_start 47 = .ok (.dup, 1) := by decide +kernel
theorem dd_D_start_48 : decode cd_D_start 48 = .ok (.getfield 59, 3) := by decide +kernel
theorem dd_D_start_51 : decode cd_D_start 51 = .ok (.iconst 1, 1) := by decide +kernel
theorem dd_D_start_52 : decode cd_D_start 52 = .ok (.iadd, 1) := by decide +kernel
theorem dd_D_start_53 : decode cd_D_start 53 = .ok (.putfield 59, 3) := by decide +kernel
theorem dd_D_start_56 : decode cd_D_start 56 = .ok (.aload_n 2, 1) := by decide +kernel
theorem dd_D_start_57 : decode cd_D_start 57 = .ok (.aload_n 2, 1) := by decide +kernel
theorem dd_D_start_58 : decode cd_D_start 58 = .ok (.getfield 171, 3) := by decide +kernel
theorem dd_D_start_61 : decode cd_D_start 61 = .ok (.aload_n 2, 1) := by decide +kernel
theorem dd_D_start_62 : decode cd_D_start 62 = .ok (.getfield 59, 3) := by decide +kernel
theorem dd_D_start_65 : decode cd_D_start 65 = .ok (.invokestatic 15, 3) := by decide +kernel
theorem dd_D_start_68 : decode cd_D_start 68 = .ok (.putfield 171, 3) := by decide +kernel
theorem dd_D_start_71 : decode cd_D_start 71 = .ok (.aload_n 2, 1) := by decide +kernel
theorem dd_D_start_72 : decode cd_D_start 72 = .ok (.getfield 62, 3) := by decide +kernel
theorem dd_D_start_75 : decode cd_D_start 75 = .ok (.astore_n 2, 1) := by decide +kernel
theorem dd_D_start_76 : decode cd_D_start 76 = .ok (.goto (-34), 3) := by decide +kernel
theorem dd_D_start_79 : decode cd_D_start 79 = .ok (.return_, 1) := by decide +kernel
theorem dd_D_withdraw_0 : decode cd_D_withdraw 0 = .ok (.aload_n 1, 1) := by decide +kernel
theorem dd_D_withdraw_1 : decode cd_D_withdraw 1 = .ok (.getfield 110, 3) := by decide +kernel
theorem dd_D_withdraw_4 : decode cd_D_withdraw 4 = .ok (.ifnonnull 13, 3) := by decide +kernel
theorem dd_D_withdraw_7 : decode cd_D_withdraw 7 = .ok (.aload_n 0, 1) := by decide +kernel
theorem dd_D_withdraw_8 : decode cd_D_withdraw 8 = .ok (.dup, 1) := by decide +kernel
theorem dd_D_withdraw_9 : decode cd_D_withdraw 9 = .ok (.getfield 210, 3) := by decide +kernel
theorem dd_D_withdraw_12 : decode cd_D_withdraw 12 = .ok (.iconst 1, 1) := by decide +kernel
theorem dd_D_withdraw_13 : decode cd_D_withdraw 13 = .ok (.isub, 1) := by decide +kernel
theorem dd_D_withdraw_14 : decode cd_D_withdraw 14 = .ok (.putfield 210, 3) := by decide +kernel
theorem dd_D_withdraw_17 : decode cd_D_withdraw 17 = .ok (.aload_n 1, 1) := by decide +kernel
theorem dd_D_withdraw_18 : decode cd_D_withdraw 18 = .ok (.getfield 201, 3) := by decide +kernel
theorem dd_D_withdraw_21 : decode cd_D_withdraw 21 = .ok (.ifCond .eq 11, 3) := by decide +kernel
theorem dd_D_withdraw_24 : decode cd_D_withdraw 24 = .ok (.aload_n 1, 1) := by decide +kernel
theorem dd_D_withdraw_25 : decode cd_D_withdraw 25 = .ok (.getfield 141, 3) := by decide +kernel
theorem dd_D_withdraw_28 : decode cd_D_withdraw 28 = .ok (.iconst 0, 1) := by decide +kernel
theorem dd_D_withdraw_29 : decode cd_D_withdraw 29 = .ok (.putfield 213, 3) := by decide +kernel
theorem dd_D_withdraw_32 : decode cd_D_withdraw 32 = .ok (.aload_n 1, 1) := by decide +kernel
theorem dd_D_withdraw_33 : decode cd_D_withdraw 33 = .ok (.getfield 141, 3) := by decide +kernel
end
section
/-! Part 02: decode rows of the class. -/
theorem dd_D_withdraw_36 : decode cd_D_withdraw 36 = .ok (.astore_n 2, 1) := by decide +kernel
theorem dd_D_withdraw_37 : decode cd_D_withdraw 37 = .ok (.aload_n 2, 1) := by decide +kernel
theorem dd_D_withdraw_38 : decode cd_D_withdraw 38 = .ok (.ifnull 21, 3) := by decide +kernel
theorem dd_D_withdraw_41 : decode cd_D_withdraw 41 = .ok (.aload_n 2, 1) := by decide +kernel
theorem dd_D_withdraw_42 : decode cd_D_withdraw 42 = .ok (.dup, 1) := by decide +kernel
theorem dd_D_withdraw_43 : decode cd_D_withdraw 43 = .ok (.getfield 59, 3) := by decide +kernel
theorem dd_D_withdraw_46 : decode cd_D_withdraw 46 = .ok (.iconst 1, 1) := by decide +kernel
theorem dd_D_withdraw_47 : decode cd_D_withdraw 47 = .ok (.isub, 1) := by decide +kernel
theorem dd_D_withdraw_48 : decode cd_D_withdraw 48 = .ok (.putfield 59, 3) := by decide +kernel
theorem dd_D_withdraw_51 : decode cd_D_withdraw 51 = .ok (.aload_n 2, 1) := by decide +kernel
theorem dd_D_withdraw_52 : decode cd_D_withdraw 52 = .ok (.getfield 62, 3) := by decide +kernel
theorem dd_D_withdraw_55 : decode cd_D_withdraw 55 = .ok (.astore_n 2, 1) := by decide +kernel
theorem dd_D_withdraw_56 : decode cd_D_withdraw 56 = .ok (.goto (-19), 3) := by decide +kernel
theorem dd_D_withdraw_59 : decode cd_D_withdraw 59 = .ok (.return_, 1) := by decide +kernel
theorem dd_D_conclude_0 : decode cd_D_conclude 0 = .ok (.aload_n 1, 1) := by decide +kernel
theorem dd_D_conclude_1 : decode cd_D_conclude 1 = .ok (.iload_n 2, 1) := by decide +kernel
theorem dd_D_conclude_2 : decode cd_D_conclude 2 = .ok (.putfield 91, 3) := by decide +kernel
theorem dd_D_conclude_5 : decode cd_D_conclude 5 = .ok (.aload_n 1, 1) := by decide +kernel
theorem dd_D_conclude_6 : decode cd_D_conclude 6 = .ok (.getfield 110, 3) := by decide +kernel
theorem dd_D_conclude_9 : decode cd_D_conclude 9 = .ok (.ifnull 11, 3) := by decide +kernel
theorem dd_D_conclude_12 : decode cd_D_conclude 12 = .ok (.aload_n 1, 1) := by decide +kernel
theorem dd_D_conclude_13 : decode cd_D_conclude 13 = .ok (.getfield 110, 3) := by decide +kernel
theorem dd_D_conclude_16 : decode cd_D_conclude 16 = .ok (.iconst 3, 1) := by decide +kernel
theorem dd_D_conclude_17 : decode cd_D_conclude 17 = .ok (.putfield 91, 3) := by decide +kernel
theorem dd_D_conclude_20 : decode cd_D_conclude 20 = .ok (.aload_n 1, 1) := by decide +kernel
theorem dd_D_conclude_21 : decode cd_D_conclude 21 = .ok (.getfield 77, 3) := by decide +kernel
theorem dd_D_conclude_24 : decode cd_D_conclude 24 = .ok (.ifnull 24, 3) := by decide +kernel
theorem dd_D_conclude_27 : decode cd_D_conclude 27 = .ok (.aload_n 1, 1) := by decide +kernel
theorem dd_D_conclude_28 : decode cd_D_conclude 28 = .ok (.getfield 77, 3) := by decide +kernel
theorem dd_D_conclude_31 : decode cd_D_conclude 31 = .ok (.dup, 1) := by decide +kernel
theorem dd_D_conclude_32 : decode cd_D_conclude 32 = .ok (.getfield 81, 3) := by decide +kernel
theorem dd_D_conclude_35 : decode cd_D_conclude 35 = .ok (.iconst 1, 1) := by decide +kernel
theorem dd_D_conclude_36 : decode cd_D_conclude 36 = .ok (.isub, 1) := by decide +kernel
theorem dd_D_conclude_37 : decode cd_D_conclude 37 = .ok (.putfield 81, 3) := by decide +kernel
theorem dd_D_conclude_40 : decode cd_D_conclude 40 = .ok (.aload_n 0, 1) := by decide +kernel
theorem dd_D_conclude_41 : decode cd_D_conclude 41 = .ok (.aload_n 1, 1) := by decide +kernel
theorem dd_D_conclude_42 : decode cd_D_conclude 42 = .ok (.getfield 77, 3) := by decide +kernel
theorem dd_D_conclude_45 : decode cd_D_conclude 45 = .ok (.invokevirtual 123, 3) := by decide +kernel
theorem dd_D_conclude_48 : decode cd_D_conclude 48 = .ok (.return_, 1) := by decide +kernel
theorem dd_D_releaseIfEmpty_0 : decode cd_D_releaseIfEmpty 0 = .ok (.aload_n 1, 1) := by decide +kernel
theorem dd_D_releaseIfEmpty_1 : decode cd_D_releaseIfEmpty 1 = .ok (.invokevirtual 114, 3) := by decide +kernel
theorem dd_D_releaseIfEmpty_4 : decode cd_D_releaseIfEmpty 4 = .ok (.ifCond .ne 4, 3) := by decide +kernel
theorem dd_D_releaseIfEmpty_7 : decode cd_D_releaseIfEmpty 7 = .ok (.return_, 1) := by decide +kernel
theorem dd_D_releaseIfEmpty_8 : decode cd_D_releaseIfEmpty 8 = .ok (.iconst 0, 1) := by decide +kernel
theorem dd_D_releaseIfEmpty_9 : decode cd_D_releaseIfEmpty 9 = .ok (.istore_n 2, 1) := by decide +kernel
theorem dd_D_releaseIfEmpty_10 : decode cd_D_releaseIfEmpty 10 = .ok (.iload_n 2, 1) := by decide +kernel
theorem dd_D_releaseIfEmpty_11 : decode cd_D_releaseIfEmpty 11 = .ok (.aload_n 0, 1) := by decide +kernel
theorem dd_D_releaseIfEmpty_12 : decode cd_D_releaseIfEmpty 12 = .ok (.getfield 181, 3) := by decide +kernel
theorem dd_D_releaseIfEmpty_15 : decode cd_D_releaseIfEmpty 15 = .ok (.if_icmp .ge 44, 3) := by decide +kernel
theorem dd_D_releaseIfEmpty_18 : decode cd_D_releaseIfEmpty 18 = .ok (.aload_n 0, 1) := by decide +kernel
theorem dd_D_releaseIfEmpty_19 : decode cd_D_releaseIfEmpty 19 = .ok (.getfield 30, 3) := by decide +kernel
theorem dd_D_releaseIfEmpty_22 : decode cd_D_releaseIfEmpty 22 = .ok (.iload_n 2, 1) := by decide +kernel
theorem dd_D_releaseIfEmpty_23 : decode cd_D_releaseIfEmpty 23 = .ok (.aaload, 1) := by decide +kernel
theorem dd_D_releaseIfEmpty_24 : decode cd_D_releaseIfEmpty 24 = .ok (.getfield 91, 3) := by decide +kernel
theorem dd_D_releaseIfEmpty_27 : decode cd_D_releaseIfEmpty 27 = .ok (.ifCond .ne 26, 3) := by decide +kernel
theorem dd_D_releaseIfEmpty_30 : decode cd_D_releaseIfEmpty 30 = .ok (.aload_n 0, 1) := by decide +kernel
theorem dd_D_releaseIfEmpty_31 : decode cd_D_releaseIfEmpty 31 = .ok (.getfield 30, 3) := by decide +kernel
theorem dd_D_releaseIfEmpty_34 : decode cd_D_releaseIfEmpty 34 = .ok (.iload_n 2, 1) := by decide +kernel
theorem dd_D_releaseIfEmpty_35 : decode cd_D_releaseIfEmpty 35 = .ok (.aaload, 1) := by decide +kernel
theorem dd_D_releaseIfEmpty_36 : decode cd_D_releaseIfEmpty 36 = .ok (.getfield 117, 3) := by decide +kernel
theorem dd_D_releaseIfEmpty_39 : decode cd_D_releaseIfEmpty 39 = .ok (.aload_n 1, 1) := by decide +kernel
theorem dd_D_releaseIfEmpty_40 : decode cd_D_releaseIfEmpty 40 = .ok (.if_acmp .ne 13, 3) := by decide +kernel
theorem dd_D_releaseIfEmpty_43 : decode cd_D_releaseIfEmpty 43 = .ok (.aload_n 0, 1) := by decide +kernel
theorem dd_D_releaseIfEmpty_44 : decode cd_D_releaseIfEmpty 44 = .ok (.aload_n 0, 1) := by decide +kernel
theorem dd_D_releaseIfEmpty_45 : decode cd_D_releaseIfEmpty 45 = .ok (.getfield 30, 3) := by decide +kernel
theorem dd_D_releaseIfEmpty_48 : decode cd_D_releaseIfEmpty 48 = .ok (.iload_n 2, 1) := by decide +kernel
theorem dd_D_releaseIfEmpty_49 : decode cd_D_releaseIfEmpty 49 = .ok (.aaload, 1) := by decide +kernel
theorem dd_D_releaseIfEmpty_50 : decode cd_D_releaseIfEmpty 50 = .ok (.invokevirtual 84, 3) := by decide +kernel
theorem dd_D_releaseIfEmpty_53 : decode cd_D_releaseIfEmpty 53 = .ok (.iinc 2 1, 3) := by decide +kernel
theorem dd_D_releaseIfEmpty_56 : decode cd_D_releaseIfEmpty 56 = .ok (.goto (-46), 3) := by decide +kernel
theorem dd_D_releaseIfEmpty_59 : decode cd_D_releaseIfEmpty 59 = .ok (.return_, 1) := by decide +kernel
theorem dd_B_init_0 : decode cd_B_init 0 = .ok (.aload_n 0, 1) := by decide +kernel
theorem dd_B_init_1 : decode cd_B_init 1 = .ok (.invokespecial 3, 3) := by decide +kernel
theorem dd_B_init_4 : decode cd_B_init 4 = .ok (.aload_n 0, 1) := by decide +kernel
theorem dd_B_init_5 : decode cd_B_init 5 = .ok (.iload_n 1, 1) := by decide +kernel
theorem dd_B_init_6 : decode cd_B_init 6 = .ok (.putfield 9, 3) := by decide +kernel
theorem dd_B_init_9 : decode cd_B_init 9 = .ok (.aload_n 0, 1) := by decide +kernel
theorem dd_B_init_10 : decode cd_B_init 10 = .ok (.aload_n 2, 1) := by decide +kernel
theorem dd_B_init_11 : decode cd_B_init 11 = .ok (.putfield 15, 3) := by decide +kernel
theorem dd_B_init_14 : decode cd_B_init 14 = .ok (.aload_n 0, 1) := by decide +kernel
theorem dd_B_init_15 : decode cd_B_init 15 = .ok (.iload_n 3, 1) := by decide +kernel
theorem dd_B_init_16 : decode cd_B_init 16 = .ok (.putfield 19, 3) := by decide +kernel
theorem dd_B_init_19 : decode cd_B_init 19 = .ok (.return_, 1) := by decide +kernel
theorem dd_B_isAhead_0 : decode cd_B_isAhead 0 = .ok (.aload_n 0, 1) := by decide +kernel
theorem dd_B_isAhead_1 : decode cd_B_isAhead 1 = .ok (.getfield 23, 3) := by decide +kernel
theorem dd_B_isAhead_4 : decode cd_B_isAhead 4 = .ok (.ifCond .eq 19, 3) := by decide +kernel
theorem dd_B_isAhead_7 : decode cd_B_isAhead 7 = .ok (.aload_n 0, 1) := by decide +kernel
theorem dd_B_isAhead_8 : decode cd_B_isAhead 8 = .ok (.getfield 23, 3) := by decide +kernel
theorem dd_B_isAhead_11 : decode cd_B_isAhead 11 = .ok (.iconst 1, 1) := by decide +kernel
theorem dd_B_isAhead_12 : decode cd_B_isAhead 12 = .ok (.if_icmp .eq 11, 3) := by decide +kernel
theorem dd_B_isAhead_15 : decode cd_B_isAhead 15 = .ok (.aload_n 0, 1) := by decide +kernel
theorem dd_B_isAhead_16 : decode cd_B_isAhead 16 = .ok (.getfield 23, 3) := by decide +kernel
theorem dd_B_isAhead_19 : decode cd_B_isAhead 19 = .ok (.iconst 2, 1) := by decide +kernel
theorem dd_B_isAhead_20 : decode cd_B_isAhead 20 = .ok (.if_icmp .ne 7, 3) := by decide +kernel
theorem dd_B_isAhead_23 : decode cd_B_isAhead 23 = .ok (.iconst 1, 1) := by decide +kernel
theorem dd_B_isAhead_24 : decode cd_B_isAhead 24 = .ok (.goto 4, 3) := by decide +kernel
theorem dd_B_isAhead_27 : decode cd_B_isAhead 27 = .ok (.iconst 0, 1) := by decide +kernel
theorem dd_B_isAhead_28 : decode cd_B_isAhead 28 = .ok (.ireturn, 1) := by decide +kernel
theorem dd_B_isLetIn_0 : decode cd_B_isLetIn 0 = .ok (.aload_n 0, 1) := by decide +kernel
theorem dd_B_isLetIn_1 : decode cd_B_isLetIn 1 = .ok (.getfield 19, 3) := by decide +kernel
theorem dd_B_isLetIn_4 : decode cd_B_isLetIn 4 = .ok (.ifCond .eq 15, 3) := by decide +kernel
theorem dd_B_isLetIn_7 : decode cd_B_isLetIn 7 = .ok (.aload_n 0, 1) := by decide +kernel
theorem dd_B_isLetIn_8 : decode cd_B_isLetIn 8 = .ok (.getfield 15, 3) := by decide +kernel
theorem dd_B_isLetIn_11 : decode cd_B_isLetIn 11 = .ok (.getfield 26, 3) := by decide +kernel
theorem dd_B_isLetIn_14 : decode cd_B_isLetIn 14 = .ok (.ifCond .le 5, 3) := by decide +kernel
theorem dd_B_isLetIn_17 : decode cd_B_isLetIn 17 = .ok (.iconst 0, 1) := by decide +kernel
theorem dd_B_isLetIn_18 : decode cd_B_isLetIn 18 = .ok (.ireturn, 1) := by decide +kernel
theorem dd_B_isLetIn_19 : decode cd_B_isLetIn 19 = .ok (.aload_n 0, 1) := by decide +kernel
theorem dd_B_isLetIn_20 : decode cd_B_isLetIn 20 = .ok (.getfield 15, 3) := by decide +kernel
theorem dd_B_isLetIn_23 : decode cd_B_isLetIn 23 = .ok (.astore_n 1, 1) := by decide +kernel
theorem dd_B_isLetIn_24 : decode cd_B_isLetIn 24 = .ok (.aload_n 1, 1) := by decide +kernel
theorem dd_B_isLetIn_25 : decode cd_B_isLetIn 25 = .ok (.ifnull 51, 3) := by decide +kernel
theorem dd_B_isLetIn_28 : decode cd_B_isLetIn 28 = .ok (.aload_n 1, 1) := by decide +kernel
theorem dd_B_isLetIn_29 : decode cd_B_isLetIn 29 = .ok (.getfield 31, 3) := by decide +kernel
theorem dd_B_isLetIn_32 : decode cd_B_isLetIn 32 = .ok (.ifCond .gt 17, 3) := by decide +kernel
theorem dd_B_isLetIn_35 : decode cd_B_isLetIn 35 = .ok (.aload_n 1, 1) := by decide +kernel
theorem dd_B_isLetIn_36 : decode cd_B_isLetIn 36 = .ok (.invokevirtual 34, 3) := by decide +kernel
theorem dd_B_isLetIn_39 : decode cd_B_isLetIn 39 = .ok (.ifCond .eq 10, 3) := by decide +kernel
theorem dd_B_isLetIn_42 : decode cd_B_isLetIn 42 = .ok (.aload_n 1, 1) := by decide +kernel
theorem dd_B_isLetIn_43 : decode cd_B_isLetIn 43 = .ok (.getfield 38, 3) := by decide +kernel
theorem dd_B_isLetIn_46 : decode cd_B_isLetIn 46 = .ok (.ifCond .eq 5, 3) := by decide +kernel
theorem dd_B_isLetIn_49 : decode cd_B_isLetIn 49 = .ok (.iconst 0, 1) := by decide +kernel
theorem dd_B_isLetIn_50 : decode cd_B_isLetIn 50 = .ok (.ireturn, 1) := by decide +kernel
theorem dd_B_isLetIn_51 : decode cd_B_isLetIn 51 = .ok (.aload_n 1, 1) := by decide +kernel
theorem dd_B_isLetIn_52 : decode cd_B_isLetIn 52 = .ok (.aload_n 0, 1) := by decide +kernel
theorem dd_B_isLetIn_53 : decode cd_B_isLetIn 53 = .ok (.getfield 15, 3) := by decide +kernel
theorem dd_B_isLetIn_56 : decode cd_B_isLetIn 56 = .ok (.if_acmp .eq 12, 3) := by decide +kernel
theorem dd_B_isLetIn_59 : decode cd_B_isLetIn 59 = .ok (.aload_n 1, 1) := by decide +kernel
theorem dd_B_isLetIn_60 : decode cd_B_isLetIn 60 = .ok (.invokevirtual 41, 3) := by decide +kernel
theorem dd_B_isLetIn_63 : decode cd_B_isLetIn 63 = .ok (.ifCond .eq 5, 3) := by decide +kernel
theorem dd_B_isLetIn_66 : decode cd_B_isLetIn 66 = .ok (.iconst 0, 1) := by decide +kernel
theorem dd_B_isLetIn_67 : decode cd_B_isLetIn 67 = .ok (.ireturn, 1) := by decide +kernel
theorem dd_B_isLetIn_68 : decode cd_B_isLetIn 68 = .ok (.aload_n 1, 1) := by decide +kernel
theorem dd_B_isLetIn_69 : decode cd_B_isLetIn 69 = .ok (.getfield 44, 3) := by decide +kernel
theorem dd_B_isLetIn_72 : decode cd_B_isLetIn 72 = .ok (.astore_n 1, 1) := by decide +kernel
theorem dd_B_isLetIn_73 : decode cd_B_isLetIn 73 = .ok (.goto (-49), 3) := by decide +kernel
theorem dd_B_isLetIn_76 : decode cd_B_isLetIn 76 = .ok (.iconst 1, 1) := by decide +kernel
theorem dd_B_isLetIn_77 : decode cd_B_isLetIn 77 = .ok (.ireturn, 1) := by decide +kernel
theorem dd_B_goesBefore_0 : decode cd_B_goesBefore 0 = .ok (.aload_n 0, 1) := by decide +kernel
theorem dd_B_goesBefore_1 : decode cd_B_goesBefore 1 = .ok (.getfield 15, 3) := by decide +kernel
theorem dd_B_goesBefore_4 : decode cd_B_goesBefore 4 = .ok (.invokevirtual 47, 3) := by decide +kernel
theorem dd_B_goesBefore_7 : decode cd_B_goesBefore 7 = .ok (.istore_n 2, 1) := by decide +kernel
theorem dd_B_goesBefore_8 : decode cd_B_goesBefore 8 = .ok (.aload_n 1, 1) := by decide +kernel
theorem dd_B_goesBefore_9 : decode cd_B_goesBefore 9 = .ok (.getfield 15, 3) := by decide +kernel
theorem dd_B_goesBefore_12 : decode cd_B_goesBefore 12 = .ok (.invokevirtual 47, 3) := by decide +kernel
theorem dd_B_goesBefore_15 : decode cd_B_goesBefore 15 = .ok (.istore_n 3, 1) := by decide +kernel
theorem dd_B_goesBefore_16 : decode cd_B_goesBefore 16 = .ok (.iload_n 2, 1) := by decide +kernel
theorem dd_B_goesBefore_17 : decode cd_B_goesBefore 17 = .ok (.iload_n 3, 1) := by decide +kernel
theorem dd_B_goesBefore_18 : decode cd_B_goesBefore 18 = .ok (.if_icmp .gt 19, 3) := by decide +kernel
theorem dd_B_goesBefore_21 : decode cd_B_goesBefore 21 = .ok (.iload_n 2, 1) := by decide +kernel
theorem dd_B_goesBefore_22 : decode cd_B_goesBefore 22 = .ok (.iload_n 3, 1) := by decide +kernel
theorem dd_B_goesBefore_23 : decode cd_B_goesBefore 23 = .ok (.if_icmp .ne 18, 3) := by decide +kernel
theorem dd_B_goesBefore_26 : decode cd_B_goesBefore 26 = .ok (.aload_n 0, 1) := by decide +kernel
theorem dd_B_goesBefore_27 : decode cd_B_goesBefore 27 = .ok (.getfield 51, 3) := by decide +kernel
theorem dd_B_goesBefore_30 : decode cd_B_goesBefore 30 = .ok (.aload_n 1, 1) := by decide +kernel
theorem dd_B_goesBefore_31 : decode cd_B_goesBefore 31 = .ok (.getfield 51, 3) := by decide +kernel
theorem dd_B_goesBefore_34 : decode cd_B_goesBefore 34 = .ok (.if_icmp .ge 7, 3) := by decide +kernel
theorem dd_B_goesBefore_37 : decode cd_B_goesBefore 37 = .ok (.iconst 1, 1) := by decide +kernel
theorem dd_B_goesBefore_38 : decode cd_B_goesBefore 38 = .ok (.goto 4, 3) := by decide +kernel
theorem dd_B_goesBefore_41 : decode cd_B_goesBefore 41 = .ok (.iconst 0, 1) := by decide +kernel
theorem dd_B_goesBefore_42 : decode cd_B_goesBefore 42 = .ok (.ireturn, 1) := by decide +kernel
theorem dd_G_init_0 : decode cd_G_init 0 = .ok (.aload_n 0, 1) := by decide +kernel
theorem dd_G_init_1 : decode cd_G_init 1 = .ok (.invokespecial 1, 3) := by decide +kernel
theorem dd_G_init_4 : decode cd_G_init 4 = .ok (.return_, 1) := by decide +kernel
theorem dd_G_isEmpty_0 : decode cd_G_isEmpty 0 = .ok (.aload_n 0, 1) := by decide +kernel
theorem dd_G_isEmpty_1 : decode cd_G_isEmpty 1 = .ok (.getfield 7, 3) := by decide +kernel
theorem dd_G_isEmpty_4 : decode cd_G_isEmpty 4 = .ok (.ifCond .ne 14, 3) := by decide +kernel
theorem dd_G_isEmpty_7 : decode cd_G_isEmpty 7 = .ok (.aload_n 0, 1) := by decide +kernel
theorem dd_G_isEmpty_8 : decode cd_G_isEmpty 8 = .ok (.getfield 13, 3) := by decide +kernel
theorem dd_G_isEmpty_11 : decode cd_G_isEmpty 11 = .ok (.ifCond .ne 7, 3) := by decide +kernel
theorem dd_G_isEmpty_14 : decode cd_G_isEmpty 14 = .ok (.iconst 1, 1) := by decide +kernel
theorem dd_G_isEmpty_15 : decode cd_G_isEmpty 15 = .ok (.goto 4, 3) := by decide +kernel
theorem dd_G_isEmpty_18 : decode cd_G_isEmpty 18 = .ok (.iconst 0, 1) := by decide +kernel
theorem dd_G_isEmpty_19 : decode cd_G_isEmpty 19 = .ok (.ireturn, 1) := by decide +kernel
theorem dd_Q_init_0 : decode cd_Q_init 0 = .ok (.aload_n 0, 1) := by decide +kernel
theorem dd_Q_init_1 : decode cd_Q_init 1 = .ok (.invokespecial 1, 3) := by decide +kernel
theorem dd_Q_init_4 : decode cd_Q_init 4 = .ok (.aload_n 0, 1) := by decide +kernel
theorem dd_Q_init_5 : decode cd_Q_init 5 = .ok (.iload_n 1, 1) := by decide +kernel
theorem dd_Q_init_6 : decode cd_Q_init 6 = .ok (.putfield 7, 3) := by decide +kernel
theorem dd_Q_init_9 : decode cd_Q_init 9 = .ok (.aload_n 0, 1) := by decide +kernel
theorem dd_Q_init_10 : decode cd_Q_init 10 = .ok (.aload_n 2, 1) := by decide +kernel
theorem dd_Q_init_11 : decode cd_Q_init 11 = .ok (.putfield 13, 3) := by decide +kernel
theorem dd_Q_init_14 : decode cd_Q_init 14 = .ok (.aload_n 0, 1) := by decide +kernel
theorem dd_Q_init_15 : decode cd_Q_init 15 = .ok (.iload_n 3, 1) := by decide +kernel
theorem dd_Q_init_16 : decode cd_Q_init 16 = .ok (.putfield 17, 3) := by decide +kernel
theorem dd_Q_init_19 : decode cd_Q_init 19 = .ok (.return_, 1) := by decide +kernel
theorem dd_Q_isRoot_0 : decode cd_Q_isRoot 0 = .ok (.aload_n 0, 1) := by decide +kernel
theorem dd_Q_isRoot_1 : decode cd_Q_isRoot 1 = .ok (.getfield 13, 3) := by decide +kernel
theorem dd_Q_isRoot_4 : decode cd_Q_isRoot 4 = .ok (.ifnonnull 7, 3) := by decide +kernel
theorem dd_Q_isRoot_7 : decode cd_Q_isRoot 7 = .ok (.iconst 1, 1) := by decide +kernel
theorem dd_Q_isRoot_8 : decode cd_Q_isRoot 8 = .ok (.goto 4, 3) := by decide +kernel
theorem dd_Q_isRoot_11 : decode cd_Q_isRoot 11 = .ok (.iconst 0, 1) := by decide +kernel
theorem dd_Q_isRoot_12 : decode cd_Q_isRoot 12 = .ok (.ireturn, 1) := by decide +kernel
theorem dd_Q_leadsTo_0 : decode cd_Q_leadsTo 0 = .ok (.aload_n 0, 1) := by decide +kernel
theorem dd_Q_leadsTo_1 : decode cd_Q_leadsTo 1 = .ok (.astore_n 2, 1) := by decide +kernel
theorem dd_Q_leadsTo_2 : decode cd_Q_leadsTo 2 = .ok (.aload_n 2, 1) := by decide +kernel
theorem dd_Q_leadsTo_3 : decode cd_Q_leadsTo 3 = .ok (.ifnull 18, 3) := by decide +kernel
theorem dd_Q_leadsTo_6 : decode cd_Q_leadsTo 6 = .ok (.aload_n 2, 1) := by decide +kernel
theorem dd_Q_leadsTo_7 : decode cd_Q_leadsTo 7 = .ok (.aload_n 1, 1) := by decide +kernel
theorem dd_Q_leadsTo_8 : decode cd_Q_leadsTo 8 = .ok (.if_acmp .ne 5, 3) := by decide +kernel
theorem dd_Q_leadsTo_11 : decode cd_Q_leadsTo 11 = .ok (.iconst 1, 1) := by decide +kernel
theorem dd_Q_leadsTo_12 : decode cd_Q_leadsTo 12 = .ok (.ireturn, 1) := by decide +kernel
theorem dd_Q_leadsTo_13 : decode cd_Q_leadsTo 13 = .ok (.aload_n 2, 1) := by decide +kernel
theorem dd_Q_leadsTo_14 : decode cd_Q_leadsTo 14 = .ok (.getfield 13, 3) := by decide +kernel
theorem dd_Q_leadsTo_17 : decode cd_Q_leadsTo 17 = .ok (.astore_n 2, 1) := by decide +kernel
theorem dd_Q_leadsTo_18 : decode cd_Q_leadsTo 18 = .ok (.goto (-16), 3) := by decide +kernel
theorem dd_Q_leadsTo_21 : decode cd_Q_leadsTo 21 = .ok (.iconst 0, 1) := by decide +kernel
theorem dd_Q_leadsTo_22 : decode cd_Q_leadsTo 22 = .ok (.ireturn, 1) := by decide +kernel
theorem dd_Q_quality_0 : decode cd_Q_quality 0 = .ok (.aload_n 0, 1) := by decide +kernel
theorem dd_Q_quality_1 : decode cd_Q_quality 1 = .ok (.astore_n 1, 1) := by decide +kernel
theorem dd_Q_quality_2 : decode cd_Q_quality 2 = .ok (.aload_n 0, 1) := by decide +kernel
theorem dd_Q_quality_3 : decode cd_Q_quality 3 = .ok (.astore_n 2, 1) := by decide +kernel
theorem dd_Q_quality_4 : decode cd_Q_quality 4 = .ok (.aload_n 2, 1) := by decide +kernel
theorem dd_Q_quality_5 : decode cd_Q_quality 5 = .ok (.ifnull 13, 3) := by decide +kernel
theorem dd_Q_quality_8 : decode cd_Q_quality 8 = .ok (.aload_n 2, 1) := by decide +kernel
theorem dd_Q_quality_9 : decode cd_Q_quality 9 = .ok (.astore_n 1, 1) := by decide +kernel
theorem dd_Q_quality_10 : decode cd_Q_quality 10 = .ok (.aload_n 2, 1) := by decide +kernel
theorem dd_Q_quality_11 : decode cd_Q_quality 11 = .ok (.getfield 13, 3) := by decide +kernel
theorem dd_Q_quality_14 : decode cd_Q_quality 14 = .ok (.astore_n 2, 1) := by decide +kernel
theorem dd_Q_quality_15 : decode cd_Q_quality 15 = .ok (.goto (-11), 3) := by decide +kernel
theorem dd_Q_quality_18 : decode cd_Q_quality 18 = .ok (.aload_n 1, 1) := by decide +kernel
theorem dd_Q_quality_19 : decode cd_Q_quality 19 = .ok (.getfield 7, 3) := by decide +kernel
theorem dd_Q_quality_22 : decode cd_Q_quality 22 = .ok (.ireturn, 1) := by decide +kernel
theorem dd_Q_hasRoom_0 : decode cd_Q_hasRoom 0 = .ok (.aload_n 0, 1) := by decide +kernel
theorem dd_Q_hasRoom_1 : decode cd_Q_hasRoom 1 = .ok (.invokevirtual 20, 3) := by decide +kernel
theorem dd_Q_hasRoom_4 : decode cd_Q_hasRoom 4 = .ok (.ifCond .ne 14, 3) := by decide +kernel
theorem dd_Q_hasRoom_7 : decode cd_Q_hasRoom 7 = .ok (.aload_n 0, 1) := by decide +kernel
theorem dd_Q_hasRoom_8 : decode cd_Q_hasRoom 8 = .ok (.getfield 24, 3) := by decide +kernel
theorem dd_Q_hasRoom_11 : decode cd_Q_hasRoom 11 = .ok (.aload_n 0, 1) := by decide +kernel
theorem dd_Q_hasRoom_12 : decode cd_Q_hasRoom 12 = .ok (.getfield 17, 3) := by decide +kernel
theorem dd_Q_hasRoom_15 : decode cd_Q_hasRoom 15 = .ok (.if_icmp .ge 7, 3) := by decide +kernel
theorem dd_Q_hasRoom_18 : decode cd_Q_hasRoom 18 = .ok (.iconst 1, 1) := by decide +kernel
theorem dd_Q_hasRoom_19 : decode cd_Q_hasRoom 19 = .ok (.goto 4, 3) := by decide +kernel
theorem dd_Q_hasRoom_22 : decode cd_Q_hasRoom 22 = .ok (.iconst 0, 1) := by decide +kernel
theorem dd_Q_hasRoom_23 : decode cd_Q_hasRoom 23 = .ok (.ireturn, 1) := by decide +kernel
theorem dd_Q_isClosed_0 : decode cd_Q_isClosed 0 = .ok (.aload_n 0, 1) := by decide +kernel
theorem dd_Q_isClosed_1 : decode cd_Q_isClosed 1 = .ok (.getfield 27, 3) := by decide +kernel
theorem dd_Q_isClosed_4 : decode cd_Q_isClosed 4 = .ok (.ifnull 17, 3) := by decide +kernel
theorem dd_Q_isClosed_7 : decode cd_Q_isClosed 7 = .ok (.aload_n 0, 1) := by decide +kernel
theorem dd_Q_isClosed_8 : decode cd_Q_isClosed 8 = .ok (.getfield 27, 3) := by decide +kernel
theorem dd_Q_isClosed_11 : decode cd_Q_isClosed 11 = .ok (.getfield 31, 3) := by decide +kernel
theorem dd_Q_isClosed_14 : decode cd_Q_isClosed 14 = .ok (.ifCond .eq 7, 3) := by decide +kernel
theorem dd_Q_isClosed_17 : decode cd_Q_isClosed 17 = .ok (.iconst 1, 1) := by decide +kernel
theorem dd_Q_isClosed_18 : decode cd_Q_isClosed 18 = .ok (.goto 4, 3) := by decide +kernel
theorem dd_Q_isClosed_21 : decode cd_Q_isClosed 21 = .ok (.iconst 0, 1) := by decide +kernel
theorem dd_Q_isClosed_22 : decode cd_Q_isClosed 22 = .ok (.ireturn, 1) := by decide +kernel
theorem dd_Q_append_0 : decode cd_Q_append 0 = .ok (.aload_n 0, 1) := by decide +kernel
theorem dd_Q_append_1 : decode cd_Q_append 1 = .ok (.getfield 37, 3) := by decide +kernel
theorem dd_Q_append_4 : decode cd_Q_append 4 = .ok (.ifnonnull 11, 3) := by decide +kernel
theorem dd_Q_append_7 : decode cd_Q_append 7 = .ok (.aload_n 0, 1) := by decide +kernel
theorem dd_Q_append_8 : decode cd_Q_append 8 = .ok (.aload_n 1, 1) := by decide +kernel
theorem dd_Q_append_9 : decode cd_Q_append 9 = .ok (.putfield 27, 3) := by decide +kernel
theorem dd_Q_append_12 : decode cd_Q_append 12 = .ok (.goto 11, 3) := by decide +kernel
theorem dd_Q_append_15 : decode cd_Q_append 15 = .ok (.aload_n 0, 1) := by decide +kernel
theorem dd_Q_append_16 : decode cd_Q_append 16 = .ok (.getfield 37, 3) := by decide +kernel
theorem dd_Q_append_19 : decode cd_Q_append 19 = .ok (.aload_n 1, 1) := by decide +kernel
theorem dd_Q_append_20 : decode cd_Q_append 20 = .ok (.putfield 40, 3) := by decide +kernel
theorem dd_Q_append_23 : decode cd_Q_append 23 = .ok (.aload_n 0, 1) := by decide +kernel
theorem dd_Q_append_24 : decode cd_Q_append 24 = .ok (.aload_n 1, 1) := by decide +kernel
theorem dd_Q_append_25 : decode cd_Q_append 25 = .ok (.putfield 37, 3) := by decide +kernel
theorem dd_Q_append_28 : decode cd_Q_append 28 = .ok (.aload_n 0, 1) := by decide +kernel
theorem dd_Q_append_29 : decode cd_Q_append 29 = .ok (.dup, 1) := by decide +kernel
theorem dd_Q_append_30 : decode cd_Q_append 30 = .ok (.getfield 43, 3) := by decide +kernel
theorem dd_Q_append_33 : decode cd_Q_append 33 = .ok (.iconst 1, 1) := by decide +kernel
theorem dd_Q_append_34 : decode cd_Q_append 34 = .ok (.iadd, 1) := by decide +kernel
theorem dd_Q_append_35 : decode cd_Q_append 35 = .ok (.putfield 43, 3) := by decide +kernel
theorem dd_Q_append_38 : decode cd_Q_append 38 = .ok (.return_, 1) := by decide +kernel
theorem dd_Q_dropFirst_0 : decode cd_Q_dropFirst 0 = .ok (.aload_n 0, 1) := by decide +kernel
theorem dd_Q_dropFirst_1 : decode cd_Q_dropFirst 1 = .ok (.getfield 27, 3) := by decide +kernel
theorem dd_Q_dropFirst_4 : decode cd_Q_dropFirst 4 = .ok (.ifnonnull 4, 3) := by decide +kernel
theorem dd_Q_dropFirst_7 : decode cd_Q_dropFirst 7 = .ok (.return_, 1) := by decide +kernel
theorem dd_Q_dropFirst_8 : decode cd_Q_dropFirst 8 = .ok (.aload_n 0, 1) := by decide +kernel
theorem dd_Q_dropFirst_9 : decode cd_Q_dropFirst 9 = .ok (.aload_n 0, 1) := by decide +kernel
theorem dd_Q_dropFirst_10 : decode cd_Q_dropFirst 10 = .ok (.getfield 27, 3) := by decide +kernel
theorem dd_Q_dropFirst_13 : decode cd_Q_dropFirst 13 = .ok (.getfield 40, 3) := by decide +kernel
theorem dd_Q_dropFirst_16 : decode cd_Q_dropFirst 16 = .ok (.putfield 27, 3) := by decide +kernel
theorem dd_Q_dropFirst_19 : decode cd_Q_dropFirst 19 = .ok (.aload_n 0, 1) := by decide +kernel
theorem dd_Q_dropFirst_20 : decode cd_Q_dropFirst 20 = .ok (.getfield 27, 3) := by decide +kernel
theorem dd_Q_dropFirst_23 : decode cd_Q_dropFirst 23 = .ok (.ifnonnull 8, 3) := by decide +kernel
theorem dd_Q_dropFirst_26 : decode cd_Q_dropFirst 26 = .ok (.aload_n 0, 1) := by decide +kernel
theorem dd_Q_dropFirst_27 : decode cd_Q_dropFirst 27 = .ok (.aconst_null, 1) := by decide +kernel
theorem dd_Q_dropFirst_28 : decode cd_Q_dropFirst 28 = .ok (.putfield 37, 3) := by decide +kernel
theorem dd_Q_dropFirst_31 : decode cd_Q_dropFirst 31 = .ok (.aload_n 0, 1) := by decide +kernel
theorem dd_Q_dropFirst_32 : decode cd_Q_dropFirst 32 = .ok (.dup, 1) := by decide +kernel
theorem dd_Q_dropFirst_33 : decode cd_Q_dropFirst 33 = .ok (.getfield 43, 3) := by decide +kernel
theorem dd_Q_dropFirst_36 : decode cd_Q_dropFirst 36 = .ok (.iconst 1, 1) := by decide +kernel
theorem dd_Q_dropFirst_37 : decode cd_Q_dropFirst 37 = .ok (.isub, 1) := by decide +kernel
theorem dd_Q_dropFirst_38 : decode cd_Q_dropFirst 38 = .ok (.putfield 43, 3) := by decide +kernel
theorem dd_Q_dropFirst_41 : decode cd_Q_dropFirst 41 = .ok (.return_, 1) := by decide +kernel
theorem dd_L_cell_0 : decode cd_L_cell 0 = .ok (.iload_n 1, 1) := by decide +kernel
theorem dd_L_cell_1 : decode cd_L_cell 1 = .ok (.aload_n 0, 1) := by decide +kernel
theorem dd_L_cell_2 : decode cd_L_cell 2 = .ok (.arraylength, 1) := by decide +kernel
theorem dd_L_cell_3 : decode cd_L_cell 3 = .ok (.if_icmp .ge 9, 3) := by decide +kernel
theorem dd_L_cell_6 : decode cd_L_cell 6 = .ok (.aload_n 0, 1) := by decide +kernel
theorem dd_L_cell_7 : decode cd_L_cell 7 = .ok (.iload_n 1, 1) := by decide +kernel
theorem dd_L_cell_8 : decode cd_L_cell 8 = .ok (.iaload, 1) := by decide +kernel
theorem dd_L_cell_9 : decode cd_L_cell 9 = .ok (.goto 4, 3) := by decide +kernel
theorem dd_L_cell_12 : decode cd_L_cell 12 = .ok (.iconst 0, 1) := by decide +kernel
theorem dd_L_cell_13 : decode cd_L_cell 13 = .ok (.ireturn, 1) := by decide +kernel
end
section
/-! Part 03: ints that stand for booleans, numbers and optional numbers; branches over them. -/
def bd_b (b : Bool) : Int32 := if b then 1 else 0
def bd_o (o : Option Nat) : Int32 := match o with
  | none => -1
  | some k => nI k
def bd_in (q : Int32) (n : Nat) : Bool := decide (0 ≤ q.toInt ∧ q.toInt < n)
theorem bd_b_t : bd_b true = 1 := rfl
theorem bd_b_f : bd_b false = 0 := rfl
theorem bd_b_0 {b : Bool} : bd_b b = 0 ↔ b = false := by cases b <;> decide
theorem bd_b_nar (b : Bool) : narrow .boolean (.int (bd_b b)) = .int (bd_b b) := by cases b <;> rfl
theorem bd_b_vnar (b : Bool) : vp_nar .boolean (bd_b b) = bd_b b := by cases b <;> rfl
theorem bd_b_fit (b : Bool) : fits .boolean (.int (bd_b b)) = true := by cases b <;> rfl
theorem bd_b_inj {a b : Bool} : bd_b a = bd_b b ↔ a = b := by cases a <;> cases b <;> decide
theorem bd_o_neg {o : Option Nat} (h : ∀ k, o = some k → k < 2 ^ 31) : bd_o o < 0 ↔ o = none := by
  cases o with
  | none => exact ⟨fun _ => rfl, fun _ => by decide⟩
  | some k => exact ⟨fun q => absurd q (nI_pos (h k rfl)), fun q => by cases q⟩
theorem bd_o_eq {o : Option Nat} {g : Nat} (h : ∀ k, o = some k → k < 2 ^ 31) (hg : g < 2 ^ 31) : bd_o o = nI g ↔ o = some g := by
  cases o with
  | none =>
    refine ⟨fun q => ?_, fun q => by cases q⟩
    exact absurd (show nI g < 0 by rw [← q]; decide) (nI_pos hg)
  | some k =>
    refine ⟨fun q => ?_, fun q => by cases q; rfl⟩
    rw [(nI_eq (h k rfl) hg).mp q]
theorem bd_in_nI {a n : Nat} (ha : a < 2 ^ 31) : bd_in (nI a) n = decide (a < n) := by
  unfold bd_in
  rw [nI_toInt ha]
  congr 1
  apply propext
  omega
theorem bd_in_of {q : Int32} {n : Nat} (h : bd_in q n = true) (hn : n < 2 ^ 31) : ∃ a : Nat, a < n ∧ q = nI a := by
  have h1 : 0 ≤ q.toInt ∧ q.toInt < n := by simpa [bd_in] using h
  exact vp_in_of (vp_in_iff.mpr h1) hn
section BQ
variable {p : Program} {l : Launch} {e : Env} {R : Room} {s : State} {m : MethodId} {args : Array Value} {below : List Frame} {meth : Method} {c : Code} {H : Heap} {locs : List Loc} {cells slots : Nat} {Q : State → Prop}
variable {cc : ByteArray} {pc : Nat} {ls : Array Slot} {rest : List Value}
theorem bq_ge (hx : p.tables.exec = Jvm.exec) (hb : c.code = cc) {a b : Nat} (ha : a < 2 ^ 31) (hb2 : b < 2 ^ 31) {off : Int} {tgt : Nat} (hdg : decode cc pc = .ok (.if_icmp .ge off, 3)) (ht : (pc : Int) + off = (tgt : Int)) (kt : b ≤ a → W p l e R s m args below meth c H locs cells slots Q (F0 m tgt ls rest)) (kf : a < b → W p l e R s m args below meth c H locs cells slots Q (F0 m (pc + 3) ls rest)) : W p l e R s m args below meth c H locs cells slots Q (F0 m pc ls (.int (nI b) :: .int (nI a) :: rest)) := by
  exact lv_icmp_ge hx hb hdg ht (fun h => kt ((nI_leI hb2 ha).mp h)) (fun h => kf (by have h2 := mt (nI_leI hb2 ha).mpr h; omega))
theorem bq_lt (hx : p.tables.exec = Jvm.exec) (hb : c.code = cc) {a b : Nat} (ha : a < 2 ^ 31) (hb2 : b < 2 ^ 31) {off : Int} {tgt : Nat} (hdg : decode cc pc = .ok (.if_icmp .lt off, 3)) (ht : (pc : Int) + off = (tgt : Int)) (kt : a < b → W p l e R s m args below meth c H locs cells slots Q (F0 m tgt ls rest)) (kf : b ≤ a → W p l e R s m args below meth c H locs cells slots Q (F0 m (pc + 3) ls rest)) : W p l e R s m args below meth c H locs cells slots Q (F0 m pc ls (.int (nI b) :: .int (nI a) :: rest)) := by
  exact lv_icmp_lt hx hb hdg ht (fun h => kt ((nI_ltI ha hb2).mp h)) (fun h => kf (by have h2 := mt (nI_ltI ha hb2).mpr h; omega))
theorem bq_le (hx : p.tables.exec = Jvm.exec) (hb : c.code = cc) {a b : Nat} (ha : a < 2 ^ 31) (hb2 : b < 2 ^ 31) {off : Int} {tgt : Nat} (hdg : decode cc pc = .ok (.if_icmp .le off, 3)) (ht : (pc : Int) + off = (tgt : Int)) (kt : a ≤ b → W p l e R s m args below meth c H locs cells slots Q (F0 m tgt ls rest)) (kf : b < a → W p l e R s m args below meth c H locs cells slots Q (F0 m (pc + 3) ls rest)) : W p l e R s m args below meth c H locs cells slots Q (F0 m pc ls (.int (nI b) :: .int (nI a) :: rest)) := by
  exact lv_icmp_le hx hb hdg ht (fun h => kt ((nI_leI ha hb2).mp h)) (fun h => kf (by have h2 := mt (nI_leI ha hb2).mpr h; omega))
theorem bq_gt (hx : p.tables.exec = Jvm.exec) (hb : c.code = cc) {a b : Nat} (ha : a < 2 ^ 31) (hb2 : b < 2 ^ 31) {off : Int} {tgt : Nat} (hdg : decode cc pc = .ok (.if_icmp .gt off, 3)) (ht : (pc : Int) + off = (tgt : Int)) (kt : b < a → W p l e R s m args below meth c H locs cells slots Q (F0 m tgt ls rest)) (kf : a ≤ b → W p l e R s m args below meth c H locs cells slots Q (F0 m (pc + 3) ls rest)) : W p l e R s m args below meth c H locs cells slots Q (F0 m pc ls (.int (nI b) :: .int (nI a) :: rest)) := by
  exact lv_icmp_gt hx hb hdg ht (fun h => kt ((nI_ltI hb2 ha).mp h)) (fun h => kf (by have h2 := mt (nI_ltI hb2 ha).mpr h; omega))
theorem bq_eq (hx : p.tables.exec = Jvm.exec) (hb : c.code = cc) {a b : Nat} (ha : a < 2 ^ 31) (hb2 : b < 2 ^ 31) {off : Int} {tgt : Nat} (hdg : decode cc pc = .ok (.if_icmp .eq off, 3)) (ht : (pc : Int) + off = (tgt : Int)) (kt : a = b → W p l e R s m args below meth c H locs cells slots Q (F0 m tgt ls rest)) (kf : a ≠ b → W p l e R s m args below meth c H locs cells slots Q (F0 m (pc + 3) ls rest)) : W p l e R s m args below meth c H locs cells slots Q (F0 m pc ls (.int (nI b) :: .int (nI a) :: rest)) := by
  exact lv_icmp_eq hx hb hdg ht (fun h => kt ((nI_eq ha hb2).mp h)) (fun h => kf (by have h2 := mt (nI_eq ha hb2).mpr h; omega))
theorem bq_ne (hx : p.tables.exec = Jvm.exec) (hb : c.code = cc) {a b : Nat} (ha : a < 2 ^ 31) (hb2 : b < 2 ^ 31) {off : Int} {tgt : Nat} (hdg : decode cc pc = .ok (.if_icmp .ne off, 3)) (ht : (pc : Int) + off = (tgt : Int)) (kt : a ≠ b → W p l e R s m args below meth c H locs cells slots Q (F0 m tgt ls rest)) (kf : a = b → W p l e R s m args below meth c H locs cells slots Q (F0 m (pc + 3) ls rest)) : W p l e R s m args below meth c H locs cells slots Q (F0 m pc ls (.int (nI b) :: .int (nI a) :: rest)) := by
  exact lv_icmp_ne hx hb hdg ht (fun h => kt (fun q => h ((nI_eq ha hb2).mpr q))) (fun h => kf ((nI_eq ha hb2).mp h))
theorem bq_zeq (hx : p.tables.exec = Jvm.exec) (hb : c.code = cc) {b : Bool} {off : Int} {tgt : Nat} (hdg : decode cc pc = .ok (.ifCond .eq off, 3)) (ht : (pc : Int) + off = (tgt : Int)) (kt : b = false → W p l e R s m args below meth c H locs cells slots Q (F0 m tgt ls rest)) (kf : b = true → W p l e R s m args below meth c H locs cells slots Q (F0 m (pc + 3) ls rest)) : W p l e R s m args below meth c H locs cells slots Q (F0 m pc ls (.int (bd_b b) :: rest)) := by
  exact lv_if_eq hx hb hdg ht (fun h => kt (bd_b_0.mp h)) (fun h => kf (by cases b with | true => rfl | false => exact absurd rfl h))
theorem bq_zne (hx : p.tables.exec = Jvm.exec) (hb : c.code = cc) {b : Bool} {off : Int} {tgt : Nat} (hdg : decode cc pc = .ok (.ifCond .ne off, 3)) (ht : (pc : Int) + off = (tgt : Int)) (kt : b = true → W p l e R s m args below meth c H locs cells slots Q (F0 m tgt ls rest)) (kf : b = false → W p l e R s m args below meth c H locs cells slots Q (F0 m (pc + 3) ls rest)) : W p l e R s m args below meth c H locs cells slots Q (F0 m pc ls (.int (bd_b b) :: rest)) := by
  exact lv_if_ne hx hb hdg ht (fun h => kt (by cases b with | true => rfl | false => exact absurd rfl h)) (fun h => kf (bd_b_0.mp h))
theorem bq_neq (hx : p.tables.exec = Jvm.exec) (hb : c.code = cc) {a : Nat} (ha : a < 2 ^ 31) {off : Int} {tgt : Nat} (hdg : decode cc pc = .ok (.ifCond .eq off, 3)) (ht : (pc : Int) + off = (tgt : Int)) (kt : a = 0 → W p l e R s m args below meth c H locs cells slots Q (F0 m tgt ls rest)) (kf : a ≠ 0 → W p l e R s m args below meth c H locs cells slots Q (F0 m (pc + 3) ls rest)) : W p l e R s m args below meth c H locs cells slots Q (F0 m pc ls (.int (nI a) :: rest)) := by
  exact lv_if_eq hx hb hdg ht (fun h => kt (by have h2 := (nI_eq ha (by omega : 0 < 2 ^ 31)).mp (h.trans nI_0.symm); exact h2)) (fun h => kf (fun q => h (by rw [q]; exact nI_0)))
theorem bq_nne (hx : p.tables.exec = Jvm.exec) (hb : c.code = cc) {a : Nat} (ha : a < 2 ^ 31) {off : Int} {tgt : Nat} (hdg : decode cc pc = .ok (.ifCond .ne off, 3)) (ht : (pc : Int) + off = (tgt : Int)) (kt : a ≠ 0 → W p l e R s m args below meth c H locs cells slots Q (F0 m tgt ls rest)) (kf : a = 0 → W p l e R s m args below meth c H locs cells slots Q (F0 m (pc + 3) ls rest)) : W p l e R s m args below meth c H locs cells slots Q (F0 m pc ls (.int (nI a) :: rest)) := by
  exact lv_if_ne hx hb hdg ht (fun h => kt (fun q => h (by rw [q]; exact nI_0))) (fun h => kf (by by_cases q : a = 0; exact q; exact absurd h (nI_ne0 (by omega) ha)))
theorem bq_nle (hx : p.tables.exec = Jvm.exec) (hb : c.code = cc) {a : Nat} (ha : a < 2 ^ 31) {off : Int} {tgt : Nat} (hdg : decode cc pc = .ok (.ifCond .le off, 3)) (ht : (pc : Int) + off = (tgt : Int)) (kt : a = 0 → W p l e R s m args below meth c H locs cells slots Q (F0 m tgt ls rest)) (kf : 0 < a → W p l e R s m args below meth c H locs cells slots Q (F0 m (pc + 3) ls rest)) : W p l e R s m args below meth c H locs cells slots Q (F0 m pc ls (.int (nI a) :: rest)) := by
  exact lv_if_le hx hb hdg ht (fun h => kt (by by_cases q : a = 0; exact q; exact absurd h (nI_nle (by omega) ha))) (fun h => kf (by by_cases q : a = 0; exact absurd (by rw [q, nI_0]; decide) h; omega))
theorem bq_ngt (hx : p.tables.exec = Jvm.exec) (hb : c.code = cc) {a : Nat} (ha : a < 2 ^ 31) {off : Int} {tgt : Nat} (hdg : decode cc pc = .ok (.ifCond .gt off, 3)) (ht : (pc : Int) + off = (tgt : Int)) (kt : 0 < a → W p l e R s m args below meth c H locs cells slots Q (F0 m tgt ls rest)) (kf : a = 0 → W p l e R s m args below meth c H locs cells slots Q (F0 m (pc + 3) ls rest)) : W p l e R s m args below meth c H locs cells slots Q (F0 m pc ls (.int (nI a) :: rest)) := by
  exact lv_if_gt hx hb hdg ht (fun h => kt (by by_cases q : a = 0; rw [q, nI_0] at h; exact absurd h (by decide); omega)) (fun h => kf (by by_cases q : a = 0; exact q; have h2 := nI_lt (show 0 < a by omega) ha; rw [nI_0] at h2; exact absurd h2 h))
theorem bq_olt (hx : p.tables.exec = Jvm.exec) (hb : c.code = cc) {o : Option Nat} (ho : ∀ k, o = some k → k < 2 ^ 31) {off : Int} {tgt : Nat} (hdg : decode cc pc = .ok (.ifCond .lt off, 3)) (ht : (pc : Int) + off = (tgt : Int)) (kt : o = none → W p l e R s m args below meth c H locs cells slots Q (F0 m tgt ls rest)) (kf : o ≠ none → W p l e R s m args below meth c H locs cells slots Q (F0 m (pc + 3) ls rest)) : W p l e R s m args below meth c H locs cells slots Q (F0 m pc ls (.int (bd_o o) :: rest)) := by
  exact lv_if_lt hx hb hdg ht (fun h => kt ((bd_o_neg ho).mp h)) (fun h => kf (fun q => h ((bd_o_neg ho).mpr q)))
theorem bq_oge (hx : p.tables.exec = Jvm.exec) (hb : c.code = cc) {o : Option Nat} (ho : ∀ k, o = some k → k < 2 ^ 31) {off : Int} {tgt : Nat} (hdg : decode cc pc = .ok (.ifCond .ge off, 3)) (ht : (pc : Int) + off = (tgt : Int)) (kt : o ≠ none → W p l e R s m args below meth c H locs cells slots Q (F0 m tgt ls rest)) (kf : o = none → W p l e R s m args below meth c H locs cells slots Q (F0 m (pc + 3) ls rest)) : W p l e R s m args below meth c H locs cells slots Q (F0 m pc ls (.int (bd_o o) :: rest)) := by
  exact lv_if_ge hx hb hdg ht (fun h => kt (fun q => absurd h (by rw [q]; decide))) (fun h => kf (by cases o with | none => rfl | some k => exact absurd (nI_pos' (ho k rfl)) h))
theorem bq_one (hx : p.tables.exec = Jvm.exec) (hb : c.code = cc) {o : Option Nat} {g : Nat} (ho : ∀ k, o = some k → k < 2 ^ 31) (hg : g < 2 ^ 31) {off : Int} {tgt : Nat} (hdg : decode cc pc = .ok (.if_icmp .ne off, 3)) (ht : (pc : Int) + off = (tgt : Int)) (kt : o ≠ some g → W p l e R s m args below meth c H locs cells slots Q (F0 m tgt ls rest)) (kf : o = some g → W p l e R s m args below meth c H locs cells slots Q (F0 m (pc + 3) ls rest)) : W p l e R s m args below meth c H locs cells slots Q (F0 m pc ls (.int (nI g) :: .int (bd_o o) :: rest)) := by
  exact lv_icmp_ne hx hb hdg ht (fun h => kt (fun q => h ((bd_o_eq ho hg).mpr q))) (fun h => kf ((bd_o_eq ho hg).mp h))
end BQ
section BA
variable {p : Program} {l : Launch} {e : Env} {R : Room} {s : State} {m : MethodId} {args : Array Value} {below : List Frame} {meth : Method} {c : Code} {H : Heap} {locs : List Loc} {cells slots : Nat} {Q : State → Prop}
variable {cc : ByteArray} {pc : Nat} {ls : Array Slot} {rest : List Value} {D : va_G} {cl : List vw_C} {A : Nat → Prop} {b : Nat} {tys : List (ClassId × FieldType)} {ws : va_W} {H0 : Heap}
theorem bq_iald (hx : p.tables.exec = Jvm.exec) (hb : c.code = cc) (hK : va_K D cl tys s) (hP : va_P D cl ws H) (q0 t0 : Nat) {cA : ClassId} {n : Nat} {f : Nat → Int32} (ha : ws[q0]? = some (b, .inl (cA, n, .inl f))) (ht : tys[t0]? = some (cA, .int)) {a : Nat} (hin : a < n) (hn : n < 2 ^ 31) (hdg : decode cc pc = .ok (.iaload, 1)) (kk : W p l e R s m args below meth c H locs cells slots Q (F0 m (pc + 1) ls (.int (f a) :: rest))) : W p l e R s m args below meth c H locs cells slots Q (F0 m pc ls (.int (nI a) :: .ref b :: rest)) :=
  va_iald hx hb hK hP q0 t0 ha ht (vp_in_nI hin hn) hdg (by rw [nI_clamp (by omega)]; exact kk)
theorem bq_zald (hx : p.tables.exec = Jvm.exec) (hb : c.code = cc) (hK : va_K D cl tys s) (hP : va_P D cl ws H) (q0 t0 : Nat) {cA : ClassId} {n : Nat} {f : Nat → Int32} (ha : ws[q0]? = some (b, .inl (cA, n, .inl f))) (ht : tys[t0]? = some (cA, .boolean)) {a : Nat} (hin : a < n) (hn : n < 2 ^ 31) (hdg : decode cc pc = .ok (.baload, 1)) (kk : W p l e R s m args below meth c H locs cells slots Q (F0 m (pc + 1) ls (.int (f a) :: rest))) : W p l e R s m args below meth c H locs cells slots Q (F0 m pc ls (.int (nI a) :: .ref b :: rest)) :=
  va_zald hx hb hK hP q0 t0 ha ht (vp_in_nI hin hn) hdg (by rw [nI_clamp (by omega)]; exact kk)
theorem bq_lald (hx : p.tables.exec = Jvm.exec) (hb : c.code = cc) (hK : va_K D cl tys s) (hP : va_P D cl ws H) (q0 t0 : Nat) {cA : ClassId} {n : Nat} {f : Nat → Int64} (ha : ws[q0]? = some (b, .inl (cA, n, .inr (.inl f)))) (ht : tys[t0]? = some (cA, .long)) {a : Nat} (hin : a < n) (hn : n < 2 ^ 31) (hdg : decode cc pc = .ok (.laload, 1)) (kk : W p l e R s m args below meth c H locs cells slots Q (F0 m (pc + 1) ls (.long (f a) :: rest))) : W p l e R s m args below meth c H locs cells slots Q (F0 m pc ls (.int (nI a) :: .ref b :: rest)) :=
  va_lald hx hb hK hP q0 t0 ha ht (vp_in_nI hin hn) hdg (by rw [nI_clamp (by omega)]; exact kk)
theorem bd_up_n (g : Nat → Nat) (a v : Nat) : upd (fun j => nI (g j)) a (nI v) = fun j => nI (va_up g a v j) := by
  funext j
  by_cases h : j = a <;> simp [upd, va_up, h]
theorem bd_up_o (g : Nat → Option Nat) (a : Nat) (v : Option Nat) : upd (fun j => bd_o (g j)) a (bd_o v) = fun j => bd_o (va_up g a v j) := by
  funext j
  by_cases h : j = a <;> simp [upd, va_up, h]
theorem bd_up_b (g : Nat → Bool) (a : Nat) (v : Bool) : upd (fun j => bd_b (g j)) a (bd_b v) = fun j => bd_b (va_up g a v j) := by
  funext j
  by_cases h : j = a <;> simp [upd, va_up, h]
theorem bd_up_l (g : Nat → Int64) (a : Nat) (v : Int64) : vp_updL g a v = va_up g a v := by
  funext j
  by_cases h : j = a <;> simp [vp_updL, va_up, h]
theorem bq_iast (hx : p.tables.exec = Jvm.exec) (hb : c.code = cc) (hK : va_K D cl tys s) (hP : va_P D cl ws H) (hD : va_D A ws) (hS : va_S A H0 H locs) (q0 t0 : Nat) {cA : ClassId} {n : Nat} {g : Nat → Nat} (ha : ws[q0]? = some (b, .inl (cA, n, .inl (fun j => nI (g j))))) (ht : tys[t0]? = some (cA, .int)) {a v : Nat} (hin : a < n) (hn : n < 2 ^ 31) (hdg : decode cc pc = .ok (.iastore, 1))
    (kk : ∀ (H1 : Heap) (locs1 : List Loc), va_P D cl (ws.set q0 (b, .inl (cA, n, .inl (fun j => nI (va_up g a v j))))) H1 → va_D A (ws.set q0 (b, .inl (cA, n, .inl (fun j => nI (va_up g a v j))))) → va_S A H0 H1 locs1 → W p l e R s m args below meth c H1 locs1 cells slots Q (F0 m (pc + 1) ls rest)) : W p l e R s m args below meth c H locs cells slots Q (F0 m pc ls (.int (nI v) :: .int (nI a) :: .ref b :: rest)) := by
  refine va_iast hx hb hK hP hD hS q0 t0 ha ht (vp_in_nI hin hn) hdg (fun H1 locs1 h1 h2 h3 => ?_)
  rw [nI_clamp (by omega), bd_up_n] at h1 h2
  exact kk H1 locs1 h1 h2 h3
theorem bq_oast (hx : p.tables.exec = Jvm.exec) (hb : c.code = cc) (hK : va_K D cl tys s) (hP : va_P D cl ws H) (hD : va_D A ws) (hS : va_S A H0 H locs) (q0 t0 : Nat) {cA : ClassId} {n : Nat} {g : Nat → Option Nat} (ha : ws[q0]? = some (b, .inl (cA, n, .inl (fun j => bd_o (g j))))) (ht : tys[t0]? = some (cA, .int)) {a : Nat} {v : Option Nat} (hin : a < n) (hn : n < 2 ^ 31) (hdg : decode cc pc = .ok (.iastore, 1))
    (kk : ∀ (H1 : Heap) (locs1 : List Loc), va_P D cl (ws.set q0 (b, .inl (cA, n, .inl (fun j => bd_o (va_up g a v j))))) H1 → va_D A (ws.set q0 (b, .inl (cA, n, .inl (fun j => bd_o (va_up g a v j))))) → va_S A H0 H1 locs1 → W p l e R s m args below meth c H1 locs1 cells slots Q (F0 m (pc + 1) ls rest)) : W p l e R s m args below meth c H locs cells slots Q (F0 m pc ls (.int (bd_o v) :: .int (nI a) :: .ref b :: rest)) := by
  refine va_iast hx hb hK hP hD hS q0 t0 ha ht (vp_in_nI hin hn) hdg (fun H1 locs1 h1 h2 h3 => ?_)
  rw [nI_clamp (by omega), bd_up_o] at h1 h2
  exact kk H1 locs1 h1 h2 h3
theorem bq_zast (hx : p.tables.exec = Jvm.exec) (hb : c.code = cc) (hK : va_K D cl tys s) (hP : va_P D cl ws H) (hD : va_D A ws) (hS : va_S A H0 H locs) (q0 t0 : Nat) {cA : ClassId} {n : Nat} {g : Nat → Bool} (ha : ws[q0]? = some (b, .inl (cA, n, .inl (fun j => bd_b (g j))))) (ht : tys[t0]? = some (cA, .boolean)) {a : Nat} {v : Bool} (hin : a < n) (hn : n < 2 ^ 31) (hdg : decode cc pc = .ok (.bastore, 1))
    (kk : ∀ (H1 : Heap) (locs1 : List Loc), va_P D cl (ws.set q0 (b, .inl (cA, n, .inl (fun j => bd_b (va_up g a v j))))) H1 → va_D A (ws.set q0 (b, .inl (cA, n, .inl (fun j => bd_b (va_up g a v j))))) → va_S A H0 H1 locs1 → W p l e R s m args below meth c H1 locs1 cells slots Q (F0 m (pc + 1) ls rest)) : W p l e R s m args below meth c H locs cells slots Q (F0 m pc ls (.int (bd_b v) :: .int (nI a) :: .ref b :: rest)) := by
  refine va_zast hx hb hK hP hD hS q0 t0 ha ht (vp_in_nI hin hn) hdg (fun H1 locs1 h1 h2 h3 => ?_)
  rw [nI_clamp (by omega), bd_b_vnar, bd_up_b] at h1 h2
  exact kk H1 locs1 h1 h2 h3
theorem bq_last (hx : p.tables.exec = Jvm.exec) (hb : c.code = cc) (hK : va_K D cl tys s) (hP : va_P D cl ws H) (hD : va_D A ws) (hS : va_S A H0 H locs) (q0 t0 : Nat) {cA : ClassId} {n : Nat} {g : Nat → Int64} (ha : ws[q0]? = some (b, .inl (cA, n, .inr (.inl g)))) (ht : tys[t0]? = some (cA, .long)) {a : Nat} {v : Int64} (hin : a < n) (hn : n < 2 ^ 31) (hdg : decode cc pc = .ok (.lastore, 1))
    (kk : ∀ (H1 : Heap) (locs1 : List Loc), va_P D cl (ws.set q0 (b, .inl (cA, n, .inr (.inl (va_up g a v))))) H1 → va_D A (ws.set q0 (b, .inl (cA, n, .inr (.inl (va_up g a v))))) → va_S A H0 H1 locs1 → W p l e R s m args below meth c H1 locs1 cells slots Q (F0 m (pc + 1) ls rest)) : W p l e R s m args below meth c H locs cells slots Q (F0 m pc ls (.long v :: .int (nI a) :: .ref b :: rest)) := by
  refine va_last hx hb hK hP hD hS q0 t0 ha ht (vp_in_nI hin hn) hdg (fun H1 locs1 h1 h2 h3 => ?_)
  rw [nI_clamp (by omega), bd_up_l] at h1 h2
  exact kk H1 locs1 h1 h2 h3
end BA
end
section
/-! Part 04: the mathematical state and what the reference's methods answer of it.
N f j: numbers, O f j: optional numbers (-1 is none), Z f j: longs, B f j: booleans; f is the slot of the reference's field:
0 pool, 1 queues, 2 target, 3 width, 4 holds, 5 peaks, 6 blocks, 7 home, 8 state, 9 caller, 10 member, 11 awaits, 12 stamp, 13 deadline, 14 barrier, 15 dropped, 16 stamps, 17 entered, 18 clock (scalars at place 0). -/
abbrev sp_N : Type := Nat → Nat → Nat
abbrev sp_O : Type := Nat → Nat → Option Nat
abbrev sp_Z : Type := Nat → Nat → Int64
abbrev sp_B : Type := Nat → Nat → Bool
def sp_u {α : Type} (N : Nat → Nat → α) (f j : Nat) (v : α) : Nat → Nat → α := va_up N f (va_up (N f) j v)
theorem sp_u_app {α : Type} (N : Nat → Nat → α) (f j : Nat) (v : α) (f' j' : Nat) : sp_u N f j v f' j' = if f' = f ∧ j' = j then v else N f' j' := by
  unfold sp_u va_up
  by_cases h : f' = f
  · subst h
    by_cases h2 : j' = j <;> simp [h2]
  · simp [h]
theorem sp_u_self {α : Type} (N : Nat → Nat → α) (f j : Nat) (v : α) : sp_u N f j v f j = v := by simp [sp_u_app]
theorem sp_u_f {α : Type} (N : Nat → Nat → α) {f f' : Nat} (j : Nat) (v : α) (h : f' ≠ f) : sp_u N f j v f' = N f' := by
  funext j'
  simp [sp_u_app, h]
/-- how many below n -/
def sp_c (P : Nat → Bool) : Nat → Nat
  | 0 => 0
  | n + 1 => sp_c P n + (if P n = true then 1 else 0)
/-- is there one below n -/
def sp_a (P : Nat → Bool) : Nat → Bool
  | 0 => false
  | n + 1 => sp_a P n || P n
theorem sp_c_le (P : Nat → Bool) : ∀ n, sp_c P n ≤ n
  | 0 => Nat.le_refl _
  | n + 1 => by
    have h := sp_c_le P n
    unfold sp_c
    split <;> omega
/-- y leads to x in fewer than n steps -/
def sp_k (N : sp_N) : Nat → Nat → Nat → Bool
  | 0, _, _ => false
  | n + 1, y, x => if y = x then true else if y < 3 then false else sp_k N n (N 2 y) x
def sp_l (N : sp_N) (a b : Nat) : Bool := sp_k N 12 a b
def sp_r (N : sp_N) (a : Nat) : Nat := if sp_l N a 0 = true then 0 else if sp_l N a 1 = true then 1 else 2
def sp_v (N : sp_N) (t : Nat) : Bool := decide (N 8 t = 3) || decide (N 8 t = 4)
def sp_p (N : sp_N) (x : Nat) : Nat := sp_c (fun t => sp_v N t && sp_l N (N 7 t) x) (N 6 0)
def sp_w (N : sp_N) (O : sp_O) : Nat := sp_c (fun t => sp_v N t && decide (O 9 t = none)) (N 6 0)
/-- n goes before the best so far -/
def sp_f (N : sp_N) (o : Option Nat) (n : Nat) : Bool := match o with
  | none => true
  | some b => decide (N 12 n < N 12 b)
def sp_o (N : sp_N) (x : Nat) : Nat → Option Nat
  | 0 => none
  | n + 1 => if N 8 n = 2 ∧ N 7 n = x ∧ sp_f N (sp_o N x n) n = true then some n else sp_o N x n
def sp_b (N : sp_N) (B : sp_B) (x : Nat) : Bool := sp_a (fun t => sp_v N t && B 14 t && decide (N 7 t = x)) (N 6 0)
def sp_ff (N : sp_N) (x t : Nat) : Option Nat := if x = N 7 t then none else sp_o N x (N 6 0)
def sp_t (N : sp_N) (B : sp_B) (x t : Nat) : Bool :=
  if 3 ≤ x ∧ (0 < N 4 x ∨ N 3 x ≤ sp_p N x) then false else if sp_b N B x = true then false else match sp_ff N x t with
    | none => true
    | some f => !B 14 f
def sp_m (N : sp_N) (O : sp_O) (B : sp_B) (t : Nat) : Bool :=
  if ¬ N 8 t = 2 ∨ ¬ sp_o N (N 7 t) (N 6 0) = some t then false
  else if B 14 t = true ∧ 0 < sp_p N (N 7 t) then false
  else if B 15 t = false ∧ O 9 t = none ∧ N 0 0 ≤ sp_w N O then false
  else !(sp_a (fun x => sp_l N (N 7 t) x && !sp_t N B x t) (N 1 0))
def sp_g (N : sp_N) (O : sp_O) (g : Nat) : Nat := N 17 g + sp_c (fun t => decide (O 10 t = some g) && decide (N 8 t < 5)) (N 6 0)
/-- n is chosen before the best so far -/
def sp_e (N : sp_N) (o : Option Nat) (n : Nat) : Bool := match o with
  | none => true
  | some b => decide (sp_r N (N 7 b) < sp_r N (N 7 n)) || (decide (sp_r N (N 7 n) = sp_r N (N 7 b)) && decide (N 12 n < N 12 b))
def sp_h (N : sp_N) (O : sp_O) (B : sp_B) : Nat → Option Nat
  | 0 => none
  | n + 1 => if sp_m N O B n = true ∧ sp_e N (sp_h N O B n) n = true then some n else sp_h N O B n
def sp_i (Z : sp_Z) (o : Option Nat) (n : Nat) : Bool := match o with
  | none => true
  | some b => decide (Z 13 n < Z 13 b)
def sp_d (N : sp_N) (Z : sp_Z) : Nat → Option Nat
  | 0 => none
  | n + 1 => if N 8 n = 1 ∧ Z 13 n ≤ Z 18 0 ∧ sp_i Z (sp_d N Z n) n = true then some n else sp_d N Z n
def sp_q (N : sp_N) (q : Nat) : Nat := sp_c (fun t => decide (N 8 t = 2) && decide (N 7 t = q)) (N 6 0)
def sp_y (N : sp_N) (O : sp_O) (B : sp_B) : Nat := sp_c (sp_m N O B) (N 6 0)
/-- what is written -/
def sp_L (N : sp_N) (t : Nat) : sp_N := sp_u (sp_u (sp_u N 8 t 2) 12 t (N 16 0)) 16 0 (N 16 0 + 1)
def sp_R (N : sp_N) (O : sp_O) (g : Nat) : Nat → sp_N
  | 0 => N
  | n + 1 => if sp_R N O g n 8 n = 0 ∧ O 11 n = some g then sp_L (sp_R N O g n) n else sp_R N O g n
def sp_S (N : sp_N) (O : sp_O) (g : Nat) : sp_N := if 0 < sp_g N O g then N else sp_R N O g (N 6 0)
def sp_C (N : sp_N) (O : sp_O) (t : Nat) : sp_N := match O 9 t with
  | none => N
  | some c => sp_u N 8 c 3
def sp_E (N : sp_N) (O : sp_O) (t how : Nat) : sp_N := match O 10 t with
  | none => sp_C (sp_u N 8 t how) O t
  | some g => sp_S (sp_C (sp_u N 8 t how) O t) O g
def sp_AN (N : sp_N) (q : Nat) : sp_N := sp_u (sp_u (sp_u N 6 0 (N 6 0 + 1)) 7 (N 6 0) q) 8 (N 6 0) 1
def sp_AO (N : sp_N) (O : sp_O) : sp_O := sp_u (sp_u (sp_u O 9 (N 6 0) none) 10 (N 6 0) none) 11 (N 6 0) none
def sp_AB (N : sp_N) (B : sp_B) (q : Nat) (bar : Bool) : sp_B := sp_u B 14 (N 6 0) (bar && decide (3 ≤ q))
/-- what bounds the numbers -/
def sp_Bd (N : sp_N) (O : sp_O) : Prop := N 0 0 ≤ 8 ∧ N 1 0 ≤ 12 ∧ (∀ j, N 2 j < 12) ∧ (∀ j, N 3 j ≤ 8) ∧ (∀ j, N 4 j ≤ 100) ∧ (∀ j, N 5 j ≤ 160) ∧ N 6 0 ≤ 160 ∧ (∀ t, N 7 t < 12) ∧ (∀ t, N 8 t < 7) ∧ (∀ t k, O 9 t = some k → k < 160) ∧ (∀ t k, O 10 t = some k → k < 4) ∧ (∀ t k, O 11 t = some k → k < 4) ∧ (∀ t, N 12 t < 2 ^ 31) ∧ (∀ g, N 17 g ≤ 200)
end
section
/-! Part 06: pure mathematics of counting and of the tree of queues. -/
theorem sp_c_congr {P Q : Nat → Bool} : ∀ {n : Nat}, (∀ t, t < n → P t = Q t) → sp_c P n = sp_c Q n
  | 0, _ => rfl
  | n + 1, h => by
    unfold sp_c
    rw [sp_c_congr (fun t ht => h t (by omega)), h n (by omega)]
theorem sp_c_mono {P Q : Nat → Bool} : ∀ {n : Nat}, (∀ t, t < n → P t = true → Q t = true) → sp_c P n ≤ sp_c Q n
  | 0, _ => Nat.le_refl _
  | n + 1, h => by
    have h1 := sp_c_mono (n := n) (fun t ht => h t (by omega))
    have h2 := h n (by omega)
    unfold sp_c
    by_cases hp : P n = true
    · rw [if_pos hp, if_pos (h2 hp)]; omega
    · rw [if_neg hp]; split <;> omega
theorem sp_c_lt {P Q : Nat → Bool} {a : Nat} : ∀ {n : Nat}, (∀ t, t < n → P t = true → Q t = true) → a < n → P a = false → Q a = true → sp_c P n < sp_c Q n
  | 0, _, ha, _, _ => by omega
  | n + 1, h, ha, hp, hq => by
    unfold sp_c
    by_cases han : a = n
    · subst han
      have h1 := sp_c_mono (n := a) (P := P) (Q := Q) (fun t ht => h t (by omega))
      rw [hp, hq]
      simp
      omega
    · have h1 := sp_c_lt (n := n) (fun t ht => h t (by omega)) (by omega) hp hq
      have h2 := h n (by omega)
      by_cases hpn : P n = true
      · rw [if_pos hpn, if_pos (h2 hpn)]; omega
      · rw [if_neg hpn]; split <;> omega
/-- one place goes from no to yes -/
theorem sp_c_up {P Q : Nat → Bool} {a : Nat} : ∀ {n : Nat}, (∀ t, t < n → t ≠ a → P t = Q t) → a < n → P a = false → Q a = true → sp_c Q n = sp_c P n + 1
  | 0, _, ha, _, _ => by omega
  | n + 1, h, ha, hp, hq => by
    unfold sp_c
    by_cases han : a = n
    · subst han
      have h1 := sp_c_congr (n := a) (P := P) (Q := Q) (fun t ht => h t (by omega) (by omega))
      rw [hp, hq, h1]
      simp
    · have h1 := sp_c_up (n := n) (fun t ht => h t (by omega)) (by omega) hp hq
      rw [h1, h n (by omega) (fun q => han q.symm)]
      omega
theorem sp_c_0 {P : Nat → Bool} : ∀ {n : Nat}, sp_c P n = 0 ↔ ∀ t, t < n → P t = false
  | 0 => ⟨fun _ t ht => by omega, fun _ => rfl⟩
  | n + 1 => by
    have ih := sp_c_0 (P := P) (n := n)
    unfold sp_c
    constructor
    · intro h t ht
      by_cases hn : P n = true
      · rw [if_pos hn] at h; omega
      · by_cases htn : t = n
        · subst htn; simpa using hn
        · exact ih.mp (by rw [if_neg hn] at h; omega) t (by omega)
    · intro h
      rw [ih.mpr (fun t ht => h t (by omega)), h n (by omega)]
      rfl
theorem sp_c_pos {P : Nat → Bool} {n : Nat} : 0 < sp_c P n ↔ ∃ t, t < n ∧ P t = true := by
  constructor
  · intro h
    apply Classical.byContradiction
    intro hn
    have h2 : sp_c P n = 0 := sp_c_0.mpr (fun t ht => by
      cases hp : P t with
      | false => rfl
      | true => exact absurd ⟨t, ht, hp⟩ hn)
    omega
  · rintro ⟨t, ht, hp⟩
    apply Nat.pos_of_ne_zero
    intro h0
    have h1 := sp_c_0.mp h0 t ht
    rw [hp] at h1
    cases h1
theorem sp_c_all {P : Nat → Bool} : ∀ {n : Nat}, (∀ t, t < n → P t = true) → sp_c P n = n
  | 0, _ => rfl
  | n + 1, h => by
    unfold sp_c
    rw [sp_c_all (fun t ht => h t (by omega)), h n (by omega)]
    rfl
theorem sp_a_iff {P : Nat → Bool} : ∀ {n : Nat}, sp_a P n = true ↔ ∃ t, t < n ∧ P t = true
  | 0 => ⟨fun h => absurd h (by simp [sp_a]), fun ⟨t, ht, _⟩ => by omega⟩
  | n + 1 => by
    have ih := sp_a_iff (P := P) (n := n)
    unfold sp_a
    rw [Bool.or_eq_true, ih]
    constructor
    · rintro (⟨t, ht, hp⟩ | h)
      · exact ⟨t, by omega, hp⟩
      · exact ⟨n, by omega, h⟩
    · rintro ⟨t, ht, hp⟩
      by_cases htn : t = n
      · subst htn; exact Or.inr hp
      · exact Or.inl ⟨t, by omega, hp⟩
theorem sp_a_f {P : Nat → Bool} {n : Nat} : sp_a P n = false ↔ ∀ t, t < n → P t = false := by
  constructor
  · intro h t ht
    cases hp : P t with
    | false => rfl
    | true =>
      rw [sp_a_iff.mpr ⟨t, ht, hp⟩] at h
      cases h
  · intro h
    cases ha : sp_a P n with
    | false => rfl
    | true =>
      obtain ⟨t, ht, hp⟩ := sp_a_iff.mp ha
      rw [h t ht] at hp
      cases hp
/-- a rank that falls along the targets -/
def sp_Rk (N : sp_N) (rk : Nat → Nat) : Prop := ∀ j, 3 ≤ j → j < N 1 0 → N 2 j < N 1 0 ∧ rk (N 2 j) < rk j
def sp_Tr (N : sp_N) : Prop := 3 ≤ N 1 0 ∧ N 1 0 ≤ 12 ∧ ∃ rk : Nat → Nat, sp_Rk N rk
theorem sp_Rk_small {N : sp_N} {rk : Nat → Nat} (h : sp_Rk N rk) : ∃ r : Nat → Nat, sp_Rk N r ∧ ∀ j, j < N 1 0 → r j < N 1 0 := by
  refine ⟨fun j => sp_c (fun i => decide (rk i < rk j)) (N 1 0), fun j h3 hj => ⟨(h j h3 hj).1, ?_⟩, fun j hj => ?_⟩
  · have h1 := h j h3 hj
    refine sp_c_lt (a := N 2 j) (fun t _ ht => ?_) h1.1 (by simp) (by simpa using h1.2)
    simp only [decide_eq_true_eq] at ht ⊢
    omega
  · have h1 : sp_c (fun i => decide (rk i < rk j)) (N 1 0) < sp_c (fun _ => true) (N 1 0) := sp_c_lt (a := j) (fun _ _ _ => rfl) hj (by simp) rfl
    rw [sp_c_all (P := fun _ => true) (fun _ _ => rfl)] at h1
    exact h1
theorem sp_k_fuel {N : sp_N} {rk : Nat → Nat} (h : sp_Rk N rk) (x : Nat) : ∀ (n n' y : Nat), y < N 1 0 → rk y < n → rk y < n' → sp_k N n y x = sp_k N n' y x
  | 0, _, _, _, h1, _ => by omega
  | _ + 1, 0, _, _, _, h2 => by omega
  | n + 1, n' + 1, y, hy, h1, h2 => by
    unfold sp_k
    by_cases hyx : y = x
    · rw [if_pos hyx, if_pos hyx]
    · rw [if_neg hyx, if_neg hyx]
      by_cases h3 : y < 3
      · rw [if_pos h3, if_pos h3]
      · rw [if_neg h3, if_neg h3]
        have h4 := h y (by omega) hy
        exact sp_k_fuel h x n n' (N 2 y) h4.1 (by omega) (by omega)
theorem sp_l_eq {N : sp_N} (hT : sp_Tr N) {y : Nat} (hy : y < N 1 0) (x : Nat) : sp_l N y x = if y = x then true else if y < 3 then false else sp_l N (N 2 y) x := by
  obtain ⟨h3, h12, rk, hrk⟩ := hT
  obtain ⟨r, hr, hb⟩ := sp_Rk_small hrk
  have hby := hb y hy
  show sp_k N 12 y x = _
  unfold sp_k
  by_cases hyx : y = x
  · rw [if_pos hyx, if_pos hyx]
  · rw [if_neg hyx, if_neg hyx]
    by_cases h4 : y < 3
    · rw [if_pos h4, if_pos h4]
    · rw [if_neg h4, if_neg h4]
      have h5 := hr y (by omega) hy
      exact sp_k_fuel hr x 11 12 (N 2 y) h5.1 (by omega) (by omega)
/-- induction along the targets -/
theorem sp_ind {N : sp_N} (hT : sp_Tr N) {P : Nat → Prop} (h0 : ∀ y, y < 3 → P y) (hs : ∀ y, 3 ≤ y → y < N 1 0 → P (N 2 y) → P y) : ∀ y, y < N 1 0 → P y := by
  obtain ⟨h3, h12, rk, hrk⟩ := hT
  have key : ∀ n y, rk y < n → y < N 1 0 → P y := by
    intro n
    induction n with
    | zero => intro y h; omega
    | succ n ih =>
      intro y h hy
      by_cases hy3 : y < 3
      · exact h0 y hy3
      · have h1 := hrk y (by omega) hy
        exact hs y (by omega) hy (ih _ (by omega) h1.1)
  exact fun y hy => key _ y (Nat.lt_succ_self _) hy
theorem sp_l_self (N : sp_N) (y : Nat) : sp_l N y y = true := by
  show sp_k N 12 y y = true
  unfold sp_k
  rw [if_pos rfl]
theorem sp_l_lt {N : sp_N} (hT : sp_Tr N) {x : Nat} : ∀ y, y < N 1 0 → sp_l N y x = true → x < N 1 0 := by
  refine sp_ind hT (fun y hy h => ?_) (fun y h3 hy ih h => ?_)
  · have h4 : 3 ≤ N 1 0 := hT.1
    rw [sp_l_eq hT (by omega)] at h
    by_cases hyx : y = x
    · omega
    · rw [if_neg hyx, if_pos hy] at h; cases h
  · rw [sp_l_eq hT hy] at h
    by_cases hyx : y = x
    · omega
    · rw [if_neg hyx, if_neg (by omega)] at h
      exact ih h
theorem sp_l_trans {N : sp_N} (hT : sp_Tr N) {x z : Nat} (hxz : sp_l N x z = true) : ∀ y, y < N 1 0 → sp_l N y x = true → sp_l N y z = true := by
  refine sp_ind hT (fun y hy h => ?_) (fun y h3 hy ih h => ?_)
  · have h4 : 3 ≤ N 1 0 := hT.1
    rw [sp_l_eq hT (by omega)] at h
    by_cases hyx : y = x
    · subst hyx; exact hxz
    · rw [if_neg hyx, if_pos hy] at h; cases h
  · rw [sp_l_eq hT hy] at h
    by_cases hyx : y = x
    · subst hyx; exact hxz
    · rw [if_neg hyx, if_neg (by omega)] at h
      rw [sp_l_eq hT hy]
      by_cases hyz : y = z
      · rw [if_pos hyz]
      · rw [if_neg hyz, if_neg (by omega)]
        exact ih h
/-- whom y leads to has a lower rank, or is y -/
theorem sp_l_rk {N : sp_N} (hT : sp_Tr N) {rk : Nat → Nat} (hrk : sp_Rk N rk) {x : Nat} : ∀ y, y < N 1 0 → sp_l N y x = true → y = x ∨ rk x < rk y := by
  refine sp_ind hT (fun y hy h => ?_) (fun y h3 hy ih h => ?_)
  · have h4 : 3 ≤ N 1 0 := hT.1
    rw [sp_l_eq hT (by omega)] at h
    by_cases hyx : y = x
    · exact Or.inl hyx
    · rw [if_neg hyx, if_pos hy] at h; cases h
  · rw [sp_l_eq hT hy] at h
    by_cases hyx : y = x
    · exact Or.inl hyx
    · rw [if_neg hyx, if_neg (by omega)] at h
      have h1 := hrk y h3 hy
      rcases ih h with h2 | h2
      · exact Or.inr (by rw [← h2]; exact h1.2)
      · exact Or.inr (by omega)
/-- y isn't among those that its target leads to -/
theorem sp_l_no {N : sp_N} (hT : sp_Tr N) {y : Nat} (h3 : 3 ≤ y) (hy : y < N 1 0) : sp_l N (N 2 y) y = false := by
  obtain ⟨rk, hrk⟩ := hT.2.2
  have h1 := hrk y h3 hy
  cases h : sp_l N (N 2 y) y with
  | false => rfl
  | true =>
    rcases sp_l_rk hT hrk _ h1.1 h with h2 | h2
    · rw [h2] at h1; omega
    · omega
theorem sp_l_anti {N : sp_N} (hT : sp_Tr N) {x y : Nat} (hx : x < N 1 0) (hy : y < N 1 0) (h1 : sp_l N x y = true) (h2 : sp_l N y x = true) : x = y := by
  obtain ⟨rk, hrk⟩ := hT.2.2
  rcases sp_l_rk hT hrk x hx h1 with h | h
  · exact h
  · rcases sp_l_rk hT hrk y hy h2 with h4 | h4
    · exact h4.symm
    · omega
/-- a tree in which a queue has got another target, which doesn't lead to it -/
theorem sp_Tr_move {N : sp_N} (hT : sp_Tr N) {q t : Nat} (h3 : 3 ≤ q) (hq : q < N 1 0) (ht : t < N 1 0) (hn : sp_l N t q = false) : sp_Tr (sp_u N 2 q t) := by
  obtain ⟨g3, g12, rk, hrk⟩ := id hT
  have e1 : sp_u N 2 q t 1 = N 1 := sp_u_f N q t (by decide)
  refine ⟨by rw [e1]; exact g3, by rw [e1]; exact g12, fun j => if sp_l N j q = true then rk j + rk t + 1 else rk j, fun j hj3 hj => ?_⟩
  rw [e1] at hj ⊢
  by_cases hjq : j = q
  · subst hjq
    rw [sp_u_self]
    refine ⟨ht, ?_⟩
    show (if sp_l N t j = true then rk t + rk t + 1 else rk t) < (if sp_l N j j = true then rk j + rk t + 1 else rk j)
    rw [hn, sp_l_self]
    simp
    omega
  · have e2 : sp_u N 2 q t 2 j = N 2 j := by rw [sp_u_app, if_neg (by omega)]
    rw [e2]
    have h1 := hrk j hj3 hj
    refine ⟨h1.1, ?_⟩
    have h2 := sp_l_eq hT hj q
    rw [if_neg hjq, if_neg (by omega)] at h2
    show (if sp_l N (N 2 j) q = true then rk (N 2 j) + rk t + 1 else rk (N 2 j)) < (if sp_l N j q = true then rk j + rk t + 1 else rk j)
    rw [h2]
    split <;> omega
end
section
/-! Part 07: what the scans of the reference find. -/
theorem sp_o_none {N : sp_N} {x : Nat} : ∀ {n : Nat}, sp_o N x n = none ↔ ∀ t, t < n → ¬ (N 8 t = 2 ∧ N 7 t = x)
  | 0 => ⟨fun _ t ht => by omega, fun _ => rfl⟩
  | n + 1 => by
    have ih := sp_o_none (N := N) (x := x) (n := n)
    unfold sp_o
    by_cases hc : N 8 n = 2 ∧ N 7 n = x ∧ sp_f N (sp_o N x n) n = true
    · rw [if_pos hc]
      exact ⟨fun h => (by cases h), fun h => absurd ⟨hc.1, hc.2.1⟩ (h n (by omega))⟩
    · rw [if_neg hc, ih]
      constructor
      · intro h t ht
        by_cases htn : t = n
        · subst htn
          intro hq
          apply hc
          rw [ih.mpr h]
          exact ⟨hq.1, hq.2, rfl⟩
        · exact h t (by omega)
      · intro h t ht
        exact h t (by omega)
theorem sp_o_some {N : sp_N} {x b : Nat} : ∀ {n : Nat}, sp_o N x n = some b → b < n ∧ N 8 b = 2 ∧ N 7 b = x ∧ ∀ t, t < n → N 8 t = 2 → N 7 t = x → N 12 b ≤ N 12 t
  | 0, h => by cases h
  | n + 1, h => by
    unfold sp_o at h
    by_cases hc : N 8 n = 2 ∧ N 7 n = x ∧ sp_f N (sp_o N x n) n = true
    · rw [if_pos hc] at h
      cases h
      refine ⟨by omega, hc.1, hc.2.1, fun t ht h8 h7 => ?_⟩
      by_cases htn : t = b
      · subst htn; exact Nat.le_refl _
      · cases ho : sp_o N x b with
        | none => exact absurd ⟨h8, h7⟩ (sp_o_none.mp ho t (by omega))
        | some a =>
          have h1 := sp_o_some ho
          have h2 := hc.2.2
          rw [ho] at h2
          simp only [sp_f, decide_eq_true_eq] at h2
          have h3 := h1.2.2.2 t (by omega) h8 h7
          omega
    · rw [if_neg hc] at h
      have h1 := sp_o_some h
      refine ⟨by omega, h1.2.1, h1.2.2.1, fun t ht h8 h7 => ?_⟩
      by_cases htn : t = n
      · subst htn
        have h2 : ¬ sp_f N (sp_o N x t) t = true := fun q => hc ⟨h8, h7, q⟩
        rw [h] at h2
        simp only [sp_f, decide_eq_true_eq] at h2
        omega
      · exact h1.2.2.2 t (by omega) h8 h7
/-- with stamps that differ, the oldest is the one that is below all -/
theorem sp_o_is {N : sp_N} {x b n : Nat} (hb : b < n) (h8 : N 8 b = 2) (h7 : N 7 b = x) (hm : ∀ t, t < n → N 8 t = 2 → N 7 t = x → t ≠ b → N 12 b < N 12 t) : sp_o N x n = some b := by
  cases ho : sp_o N x n with
  | none => exact absurd ⟨h8, h7⟩ (sp_o_none.mp ho b hb)
  | some a =>
    obtain ⟨h1, h2, h3, h4⟩ := sp_o_some ho
    by_cases hab : a = b
    · rw [hab]
    · have h5 := hm a h1 h2 h3 hab
      have h6 := h4 b hb h8 h7
      omega
theorem sp_o_congr {N N' : sp_N} {x : Nat} : ∀ {n : Nat}, (∀ t, t < n → N' 8 t = N 8 t ∧ N' 7 t = N 7 t ∧ N' 12 t = N 12 t) → sp_o N' x n = sp_o N x n
  | 0, _ => rfl
  | n + 1, h => by
    have ih := sp_o_congr (N := N) (N' := N') (x := x) (n := n) (fun t ht => h t (by omega))
    unfold sp_o
    rw [ih, (h n (by omega)).1, (h n (by omega)).2.1]
    have e : sp_f N' (sp_o N x n) n = sp_f N (sp_o N x n) n := by
      cases ho : sp_o N x n with
      | none => rfl
      | some a =>
        have h1 := (sp_o_some ho).1
        simp only [sp_f]
        rw [(h n (by omega)).2.2, (h a (by omega)).2.2]
    rw [e]
/-- the chosen one: it may start, and none that may start goes before it -/
theorem sp_h_none {N : sp_N} {O : sp_O} {B : sp_B} : ∀ {n : Nat}, sp_h N O B n = none ↔ ∀ t, t < n → sp_m N O B t = false
  | 0 => ⟨fun _ t ht => by omega, fun _ => rfl⟩
  | n + 1 => by
    have ih := sp_h_none (N := N) (O := O) (B := B) (n := n)
    unfold sp_h
    by_cases hc : sp_m N O B n = true ∧ sp_e N (sp_h N O B n) n = true
    · rw [if_pos hc]
      refine ⟨fun h => (by cases h), fun h => ?_⟩
      have h1 := h n (by omega)
      rw [hc.1] at h1
      cases h1
    · rw [if_neg hc, ih]
      constructor
      · intro h t ht
        by_cases htn : t = n
        · subst htn
          cases hm : sp_m N O B t with
          | false => rfl
          | true =>
            exfalso
            apply hc
            rw [ih.mpr h]
            exact ⟨hm, rfl⟩
        · exact h t (by omega)
      · intro h t ht
        exact h t (by omega)
/-- a goes before b, by root and stamp -/
def sp_z (N : sp_N) (a b : Nat) : Prop := sp_r N (N 7 b) < sp_r N (N 7 a) ∨ (sp_r N (N 7 a) = sp_r N (N 7 b) ∧ N 12 a < N 12 b)
theorem sp_h_some {N : sp_N} {O : sp_O} {B : sp_B} {b : Nat} : ∀ {n : Nat}, sp_h N O B n = some b → b < n ∧ sp_m N O B b = true ∧ ∀ t, t < n → sp_m N O B t = true → ¬ sp_z N t b
  | 0, h => by cases h
  | n + 1, h => by
    unfold sp_h at h
    by_cases hc : sp_m N O B n = true ∧ sp_e N (sp_h N O B n) n = true
    · rw [if_pos hc] at h
      cases h
      refine ⟨by omega, hc.1, fun t ht hm hz => ?_⟩
      by_cases htn : t = b
      · subst htn
        rcases hz with h1 | h1 <;> omega
      · cases ho : sp_h N O B b with
        | none =>
          have h1 := sp_h_none.mp ho t (by omega)
          rw [hm] at h1
          cases h1
        | some a =>
          have h1 := sp_h_some ho
          have h2 := hc.2
          rw [ho] at h2
          simp only [sp_e, Bool.or_eq_true, Bool.and_eq_true, decide_eq_true_eq] at h2
          have h3 := h1.2.2 t (by omega) hm
          apply h3
          unfold sp_z at hz ⊢
          omega
    · rw [if_neg hc] at h
      have h1 := sp_h_some h
      refine ⟨by omega, h1.2.1, fun t ht hm hz => ?_⟩
      by_cases htn : t = n
      · subst htn
        have h2 : ¬ sp_e N (sp_h N O B t) t = true := fun q => hc ⟨hm, q⟩
        rw [h] at h2
        simp only [sp_e, Bool.or_eq_true, Bool.and_eq_true, decide_eq_true_eq] at h2
        unfold sp_z at hz
        omega
      · exact h1.2.2 t (by omega) hm hz
end
section
/-! Part 05: the reference's world: its object and its fourteen arrays, by the mathematical state. ra: addresses, ca: array classes, by the field's slot. -/
abbrev rf_F (ra : Nat → Nat) (N : sp_N) (Z : sp_Z) : List Value := [.int (nI (N 0 0)), .int (nI (N 1 0)), .ref (ra 2), .ref (ra 3), .ref (ra 4), .ref (ra 5), .int (nI (N 6 0)), .ref (ra 7), .ref (ra 8), .ref (ra 9), .ref (ra 10), .ref (ra 11), .ref (ra 12), .ref (ra 13), .ref (ra 14), .ref (ra 15), .int (nI (N 16 0)), .ref (ra 17), .long (Z 18 0)]
abbrev rf_W (ra : Nat → Nat) (ca : Nat → ClassId) (N : sp_N) (O : sp_O) (Z : sp_Z) (B : sp_B) : va_W := [(ra 0, .inr (4, rf_F ra N Z)), (ra 2, .inl (ca 2, 12, .inl (fun j => nI (N 2 j)))), (ra 3, .inl (ca 3, 12, .inl (fun j => nI (N 3 j)))), (ra 4, .inl (ca 4, 12, .inl (fun j => nI (N 4 j)))), (ra 5, .inl (ca 5, 12, .inl (fun j => nI (N 5 j)))), (ra 7, .inl (ca 7, 160, .inl (fun j => nI (N 7 j)))), (ra 8, .inl (ca 8, 160, .inl (fun j => nI (N 8 j)))), (ra 9, .inl (ca 9, 160, .inl (fun j => bd_o (O 9 j)))), (ra 10, .inl (ca 10, 160, .inl (fun j => bd_o (O 10 j)))), (ra 11, .inl (ca 11, 160, .inl (fun j => bd_o (O 11 j)))), (ra 12, .inl (ca 12, 160, .inl (fun j => nI (N 12 j)))), (ra 13, .inl (ca 13, 160, .inr (.inl (Z 13)))), (ra 14, .inl (ca 14, 160, .inl (fun j => bd_b (B 14 j)))), (ra 15, .inl (ca 15, 160, .inl (fun j => bd_b (B 15 j)))), (ra 17, .inl (ca 17, 4, .inl (fun j => nI (N 17 j))))]
abbrev rf_T (ca : Nat → ClassId) : List (ClassId × FieldType) := [(ca 2, .int), (ca 3, .int), (ca 4, .int), (ca 5, .int), (ca 7, .int), (ca 8, .int), (ca 9, .int), (ca 10, .int), (ca 11, .int), (ca 12, .int), (ca 13, .long), (ca 14, .boolean), (ca 15, .boolean), (ca 17, .int)]
/-- the world of a state -/
def rf_U (D : va_G) (ra : Nat → Nat) (ca : Nat → ClassId) (N : sp_N) (O : sp_O) (Z : sp_Z) (B : sp_B) (U : State) : Prop := va_P D vw_cl (rf_W ra ca N O Z B) U.heap ∧ va_K D vw_cl (rf_T ca) U
/-- the cells that the reference's methods may write -/
def rf_A (ra : Nat → Nat) : Nat → Prop := fun q => ∃ i : Nat, q = ra i
/-- the addresses are apart -/
def rf_J (ra : Nat → Nat) : Prop := ∀ i j : Nat, i < 18 → j < 18 → ra i = ra j → i = j
theorem rf_blind (D : va_G) (ra : Nat → Nat) (ca : Nat → ClassId) (N : sp_N) (O : sp_O) (Z : sp_Z) (B : sp_B) (As : List Value) : FrameBlind (va_Pc As (rf_U D ra ca N O Z B)) := fun a U g mk q => ⟨q.1, q.2.1, va_K.moved (u := U) (U := U.calling g mk a) (Vm.Alike.refl U.vm) q.2.2⟩
theorem rf_D {ra : Nat → Nat} (h : rf_J ra) (ca : Nat → ClassId) (N : sp_N) (O : sp_O) (Z : sp_Z) (B : sp_B) : va_D (rf_A ra) (rf_W ra ca N O Z B) := by
  have key : ∀ (k : Nat) (q : Nat × va_E), (rf_W ra ca N O Z B)[k]? = some q → ∃ i, ([0, 2, 3, 4, 5, 7, 8, 9, 10, 11, 12, 13, 14, 15, 17] : List Nat)[k]? = some i ∧ q.1 = ra i := by
    intro k q hk
    have h1 : ((rf_W ra ca N O Z B).map Prod.fst)[k]? = some q.1 := by rw [List.getElem?_map, hk]; rfl
    have h2 : (([0, 2, 3, 4, 5, 7, 8, 9, 10, 11, 12, 13, 14, 15, 17] : List Nat).map ra)[k]? = some q.1 := h1
    rw [List.getElem?_map] at h2
    cases hi : ([0, 2, 3, 4, 5, 7, 8, 9, 10, 11, 12, 13, 14, 15, 17] : List Nat)[k]? with
    | none => rw [hi] at h2; cases h2
    | some i => rw [hi] at h2; exact ⟨i, rfl, (Option.some.inj h2).symm⟩
  have lt : ∀ (k i : Nat), ([0, 2, 3, 4, 5, 7, 8, 9, 10, 11, 12, 13, 14, 15, 17] : List Nat)[k]? = some i → i < 18 := by
    intro k i hk
    have h1 := List.mem_of_getElem? hk
    have h2 : ∀ x ∈ ([0, 2, 3, 4, 5, 7, 8, 9, 10, 11, 12, 13, 14, 15, 17] : List Nat), x < 18 := by decide
    exact h2 i h1
  refine ⟨fun i j x y hi hj hxy => ?_, fun k q hk => ?_⟩
  · obtain ⟨a, a1, a2⟩ := key i x hi
    obtain ⟨b, b1, b2⟩ := key j y hj
    have hab := h a b (lt _ _ a1) (lt _ _ b1) (by rw [← a2, ← b2]; exact hxy)
    subst hab
    exact va_nd_inj _ (by decide) i j a a1 b1
  · obtain ⟨a, -, a2⟩ := key k q hk
    exact ⟨a, a2⟩
section RF
variable {p : Program} {l : Launch} {e : Env} {R : Room} {s : State} {m : MethodId} {args : Array Value} {below : List Frame} {meth : Method} {c : Code} {H : Heap} {locs : List Loc} {cells slots : Nat} {Q : State → Prop}
variable {cc bytes : ByteArray} {pc nL maxL index n : Nat} {ls : Array Slot} {rest st0 : List Value} {D : va_G} {ra : Nat → Nat} {ca : Nat → ClassId} {N : sp_N} {O : sp_O} {Z : sp_Z} {B : sp_B} {Ts ws : List Cond} {y : MethodName} {ret : Option FieldType} {rm : Room} {As : List Value}
/-- a call, inside the reference, of a method that only reads and answers v -/
theorem rf_calli {v : Int32} (S : CallFix p m c cc nL s args Ts rn_M) (hM : Met l y ws rm (va_Pc (.ref (ra 0) :: As) (rf_U D ra ca N O Z B)) (vp_Si (fun r => r = v)) 0 0 (fun _ => False)) (cw : CallW R s args rn_M rn_M index y bytes maxL ret ws rm 0 0 n) (hK : va_K D vw_cl (rf_T ca) s) (hP : va_P D vw_cl (rf_W ra ca N O Z B) H) (hn : As.length = n) (hsize : ls.size = nL) (hstack : st0 = As.reverse ++ .ref (ra 0) :: rest) (hW : (rest.map fun v => v.category).sum ≤ 8) (hdg : decode cc pc = .ok (.invokevirtual index, 3)) (hf : cells ≤ R.cells ∧ slots ≤ R.slots)
    (kk : W p l e R s m args below meth c H locs cells slots Q (F0 m (pc + 3) ls (.int v :: rest))) : W p l e R s m args below meth c H locs cells slots Q (F0 m pc ls st0) := by
  subst hstack
  exact vp_callSi (W.runV S hM cw ⟨rf_blind D ra ca N O Z B _, va_recv hK hP (ci := 4) rfl (q0 := 0) rfl, fun U hU hW => ⟨rfl, by rw [hU]; exact hP, va_K.moved hW.alike hK⟩⟩ rfl hn hsize rfl (lv_room hW) hdg hf) (fun r hr => by subst hr; exact kk)
end RF
end
section
/-! Part 09: words of a call. -/
theorem bg_good {w : Cond} (h : w ∈ bg_tbl) : (w.onTables && w.keeps) = true ∨ ∃ ty, w = .arrayClass ty := good_of_word (List.mem_filter.mp h).2
theorem bg_GV {own C : String} {index : Nat} {y : MethodName} {bytes : ByteArray} {maxL : Nat} {ret : Option FieldType} (h1 : Cond.methodLink own index y ∈ bg_tbl) (h2 : Cond.instanceMethod y ∈ bg_tbl) (h3 : Cond.selects C y y ∈ bg_tbl) (h4 : Cond.initialized C ∈ bg_tbl) (h5 : Cond.code y bytes maxL ret ∈ bg_tbl) : GoodIn bg_tbl (wsV own index C y (Cond.code y bytes maxL ret :: bg_tbl)) := by
  intro w hw
  have key : w ∈ bg_tbl := by
    unfold wsV at hw
    rcases List.mem_append.mp hw with h | h
    · simp only [List.mem_cons, List.not_mem_nil, or_false] at h
      rcases h with rfl | rfl | rfl | rfl
      · exact h1
      · exact h2
      · exact h3
      · exact h4
    · rcases List.mem_cons.mp h with rfl | h
      · exact h5
      · exact h
  exact ⟨key, bg_good key⟩
theorem bg_G {y : MethodName} {bytes : ByteArray} {maxL : Nat} {ret : Option FieldType} (h5 : Cond.code y bytes maxL ret ∈ bg_tbl) : GoodIn bg_tbl (Cond.code y bytes maxL ret :: bg_tbl) := by
  intro w hw
  have key : w ∈ bg_tbl := by
    rcases List.mem_cons.mp hw with rfl | h
    · exact h5
    · exact h
  exact ⟨key, bg_good key⟩
theorem bg_cwV {R : Room} {s : State} {args : Array Value} {own C : String} {index : Nat} {y : MethodName} {bytes : ByteArray} {maxL : Nat} {ret : Option FieldType} {rm : Room} {mc ms : Nat} (n : Nat) (ht : ∀ w ∈ bg_tbl, w.before args s = true) (h1 : Cond.methodLink own index y ∈ bg_tbl) (h2 : Cond.instanceMethod y ∈ bg_tbl) (h3 : Cond.selects C y y ∈ bg_tbl) (h4 : Cond.initialized C ∈ bg_tbl) (h5 : Cond.code y bytes maxL ret ∈ bg_tbl) (hrc : rm.cells = mc) (hrs : rm.slots = ms)
    (hd : y.cls = C ∧ y.cls ≠ "java/lang/invoke/MethodHandle" ∧ y.cls ≠ "java/lang/invoke/VarHandle" ∧ (parseMethodDescriptor y.desc).map (fun d => d.parameters.length) = some n) (hR : rm.frames + 1 ≤ R.frames ∧ 8 + (maxL + 11) + rm.locals ≤ R.locals) : CallW R s args own C index y bytes maxL ret (Cond.code y bytes maxL ret :: bg_tbl) rm mc ms n :=
  cwV n ht (bg_GV h1 h2 h3 h4 h5) rfl hrc hrs hd hR
theorem th_D_init : my_D_init.cls = rn_D ∧ my_D_init.cls ≠ "java/lang/invoke/MethodHandle" ∧ my_D_init.cls ≠ "java/lang/invoke/VarHandle" ∧ (parseMethodDescriptor my_D_init.desc).map (fun d => d.parameters.length) = some 1 := by decide +kernel
theorem th_Q_init : my_Q_init.cls = rn_Q ∧ my_Q_init.cls ≠ "java/lang/invoke/MethodHandle" ∧ my_Q_init.cls ≠ "java/lang/invoke/VarHandle" ∧ (parseMethodDescriptor my_Q_init.desc).map (fun d => d.parameters.length) = some 3 := by decide +kernel
theorem th_G_init : my_G_init.cls = rn_G ∧ my_G_init.cls ≠ "java/lang/invoke/MethodHandle" ∧ my_G_init.cls ≠ "java/lang/invoke/VarHandle" ∧ (parseMethodDescriptor my_G_init.desc).map (fun d => d.parameters.length) = some 0 := by decide +kernel
theorem th_D_queue : my_D_queue.cls = rn_D ∧ my_D_queue.cls ≠ "java/lang/invoke/MethodHandle" ∧ my_D_queue.cls ≠ "java/lang/invoke/VarHandle" ∧ (parseMethodDescriptor my_D_queue.desc).map (fun d => d.parameters.length) = some 2 := by decide +kernel
theorem th_D_queueAt : my_D_queueAt.cls = rn_D ∧ my_D_queueAt.cls ≠ "java/lang/invoke/MethodHandle" ∧ my_D_queueAt.cls ≠ "java/lang/invoke/VarHandle" ∧ (parseMethodDescriptor my_D_queueAt.desc).map (fun d => d.parameters.length) = some 1 := by decide +kernel
theorem th_D_retarget : my_D_retarget.cls = rn_D ∧ my_D_retarget.cls ≠ "java/lang/invoke/MethodHandle" ∧ my_D_retarget.cls ≠ "java/lang/invoke/VarHandle" ∧ (parseMethodDescriptor my_D_retarget.desc).map (fun d => d.parameters.length) = some 2 := by decide +kernel
theorem th_Q_isRoot : my_Q_isRoot.cls = rn_Q ∧ my_Q_isRoot.cls ≠ "java/lang/invoke/MethodHandle" ∧ my_Q_isRoot.cls ≠ "java/lang/invoke/VarHandle" ∧ (parseMethodDescriptor my_Q_isRoot.desc).map (fun d => d.parameters.length) = some 0 := by decide +kernel
theorem th_Q_leadsTo : my_Q_leadsTo.cls = rn_Q ∧ my_Q_leadsTo.cls ≠ "java/lang/invoke/MethodHandle" ∧ my_Q_leadsTo.cls ≠ "java/lang/invoke/VarHandle" ∧ (parseMethodDescriptor my_Q_leadsTo.desc).map (fun d => d.parameters.length) = some 1 := by decide +kernel
theorem th_D_submit : my_D_submit.cls = rn_D ∧ my_D_submit.cls ≠ "java/lang/invoke/MethodHandle" ∧ my_D_submit.cls ≠ "java/lang/invoke/VarHandle" ∧ (parseMethodDescriptor my_D_submit.desc).map (fun d => d.parameters.length) = some 3 := by decide +kernel
theorem th_D_groupAt : my_D_groupAt.cls = rn_D ∧ my_D_groupAt.cls ≠ "java/lang/invoke/MethodHandle" ∧ my_D_groupAt.cls ≠ "java/lang/invoke/VarHandle" ∧ (parseMethodDescriptor my_D_groupAt.desc).map (fun d => d.parameters.length) = some 1 := by decide +kernel
theorem th_D_isFull : my_D_isFull.cls = rn_D ∧ my_D_isFull.cls ≠ "java/lang/invoke/MethodHandle" ∧ my_D_isFull.cls ≠ "java/lang/invoke/VarHandle" ∧ (parseMethodDescriptor my_D_isFull.desc).map (fun d => d.parameters.length) = some 0 := by decide +kernel
theorem th_D_accept : my_D_accept.cls = rn_D ∧ my_D_accept.cls ≠ "java/lang/invoke/MethodHandle" ∧ my_D_accept.cls ≠ "java/lang/invoke/VarHandle" ∧ (parseMethodDescriptor my_D_accept.desc).map (fun d => d.parameters.length) = some 2 := by decide +kernel
theorem th_B_init : my_B_init.cls = rn_B ∧ my_B_init.cls ≠ "java/lang/invoke/MethodHandle" ∧ my_B_init.cls ≠ "java/lang/invoke/VarHandle" ∧ (parseMethodDescriptor my_B_init.desc).map (fun d => d.parameters.length) = some 3 := by decide +kernel
theorem th_D_line : my_D_line.cls = rn_D ∧ my_D_line.cls ≠ "java/lang/invoke/MethodHandle" ∧ my_D_line.cls ≠ "java/lang/invoke/VarHandle" ∧ (parseMethodDescriptor my_D_line.desc).map (fun d => d.parameters.length) = some 1 := by decide +kernel
theorem th_Q_append : my_Q_append.cls = rn_Q ∧ my_Q_append.cls ≠ "java/lang/invoke/MethodHandle" ∧ my_Q_append.cls ≠ "java/lang/invoke/VarHandle" ∧ (parseMethodDescriptor my_Q_append.desc).map (fun d => d.parameters.length) = some 1 := by decide +kernel
theorem th_D_after : my_D_after.cls = rn_D ∧ my_D_after.cls ≠ "java/lang/invoke/MethodHandle" ∧ my_D_after.cls ≠ "java/lang/invoke/VarHandle" ∧ (parseMethodDescriptor my_D_after.desc).map (fun d => d.parameters.length) = some 2 := by decide +kernel
theorem th_D_deadlineIn : my_D_deadlineIn.cls = rn_D ∧ my_D_deadlineIn.cls ≠ "java/lang/invoke/MethodHandle" ∧ my_D_deadlineIn.cls ≠ "java/lang/invoke/VarHandle" ∧ (parseMethodDescriptor my_D_deadlineIn.desc).map (fun d => d.parameters.length) = some 1 := by decide +kernel
theorem th_D_call : my_D_call.cls = rn_D ∧ my_D_call.cls ≠ "java/lang/invoke/MethodHandle" ∧ my_D_call.cls ≠ "java/lang/invoke/VarHandle" ∧ (parseMethodDescriptor my_D_call.desc).map (fun d => d.parameters.length) = some 3 := by decide +kernel
theorem th_D_blockAt : my_D_blockAt.cls = rn_D ∧ my_D_blockAt.cls ≠ "java/lang/invoke/MethodHandle" ∧ my_D_blockAt.cls ≠ "java/lang/invoke/VarHandle" ∧ (parseMethodDescriptor my_D_blockAt.desc).map (fun d => d.parameters.length) = some 1 := by decide +kernel
theorem th_D_wouldDeadlock : my_D_wouldDeadlock.cls = rn_D ∧ my_D_wouldDeadlock.cls ≠ "java/lang/invoke/MethodHandle" ∧ my_D_wouldDeadlock.cls ≠ "java/lang/invoke/VarHandle" ∧ (parseMethodDescriptor my_D_wouldDeadlock.desc).map (fun d => d.parameters.length) = some 3 := by decide +kernel
theorem th_D_whenDone : my_D_whenDone.cls = rn_D ∧ my_D_whenDone.cls ≠ "java/lang/invoke/MethodHandle" ∧ my_D_whenDone.cls ≠ "java/lang/invoke/VarHandle" ∧ (parseMethodDescriptor my_D_whenDone.desc).map (fun d => d.parameters.length) = some 2 := by decide +kernel
theorem th_G_isEmpty : my_G_isEmpty.cls = rn_G ∧ my_G_isEmpty.cls ≠ "java/lang/invoke/MethodHandle" ∧ my_G_isEmpty.cls ≠ "java/lang/invoke/VarHandle" ∧ (parseMethodDescriptor my_G_isEmpty.desc).map (fun d => d.parameters.length) = some 0 := by decide +kernel
theorem th_D_enter : my_D_enter.cls = rn_D ∧ my_D_enter.cls ≠ "java/lang/invoke/MethodHandle" ∧ my_D_enter.cls ≠ "java/lang/invoke/VarHandle" ∧ (parseMethodDescriptor my_D_enter.desc).map (fun d => d.parameters.length) = some 1 := by decide +kernel
theorem th_D_leave : my_D_leave.cls = rn_D ∧ my_D_leave.cls ≠ "java/lang/invoke/MethodHandle" ∧ my_D_leave.cls ≠ "java/lang/invoke/VarHandle" ∧ (parseMethodDescriptor my_D_leave.desc).map (fun d => d.parameters.length) = some 1 := by decide +kernel
theorem th_D_releaseIfEmpty : my_D_releaseIfEmpty.cls = rn_D ∧ my_D_releaseIfEmpty.cls ≠ "java/lang/invoke/MethodHandle" ∧ my_D_releaseIfEmpty.cls ≠ "java/lang/invoke/VarHandle" ∧ (parseMethodDescriptor my_D_releaseIfEmpty.desc).map (fun d => d.parameters.length) = some 1 := by decide +kernel
theorem th_D_cancel : my_D_cancel.cls = rn_D ∧ my_D_cancel.cls ≠ "java/lang/invoke/MethodHandle" ∧ my_D_cancel.cls ≠ "java/lang/invoke/VarHandle" ∧ (parseMethodDescriptor my_D_cancel.desc).map (fun d => d.parameters.length) = some 1 := by decide +kernel
theorem th_B_isAhead : my_B_isAhead.cls = rn_B ∧ my_B_isAhead.cls ≠ "java/lang/invoke/MethodHandle" ∧ my_B_isAhead.cls ≠ "java/lang/invoke/VarHandle" ∧ (parseMethodDescriptor my_B_isAhead.desc).map (fun d => d.parameters.length) = some 0 := by decide +kernel
theorem th_D_hold : my_D_hold.cls = rn_D ∧ my_D_hold.cls ≠ "java/lang/invoke/MethodHandle" ∧ my_D_hold.cls ≠ "java/lang/invoke/VarHandle" ∧ (parseMethodDescriptor my_D_hold.desc).map (fun d => d.parameters.length) = some 2 := by decide +kernel
theorem th_D_begin : my_D_begin.cls = rn_D ∧ my_D_begin.cls ≠ "java/lang/invoke/MethodHandle" ∧ my_D_begin.cls ≠ "java/lang/invoke/VarHandle" ∧ (parseMethodDescriptor my_D_begin.desc).map (fun d => d.parameters.length) = some 0 := by decide +kernel
theorem th_D_choose : my_D_choose.cls = rn_D ∧ my_D_choose.cls ≠ "java/lang/invoke/MethodHandle" ∧ my_D_choose.cls ≠ "java/lang/invoke/VarHandle" ∧ (parseMethodDescriptor my_D_choose.desc).map (fun d => d.parameters.length) = some 0 := by decide +kernel
theorem th_D_mayStart : my_D_mayStart.cls = rn_D ∧ my_D_mayStart.cls ≠ "java/lang/invoke/MethodHandle" ∧ my_D_mayStart.cls ≠ "java/lang/invoke/VarHandle" ∧ (parseMethodDescriptor my_D_mayStart.desc).map (fun d => d.parameters.length) = some 1 := by decide +kernel
theorem th_B_isLetIn : my_B_isLetIn.cls = rn_B ∧ my_B_isLetIn.cls ≠ "java/lang/invoke/MethodHandle" ∧ my_B_isLetIn.cls ≠ "java/lang/invoke/VarHandle" ∧ (parseMethodDescriptor my_B_isLetIn.desc).map (fun d => d.parameters.length) = some 0 := by decide +kernel
theorem th_Q_hasRoom : my_Q_hasRoom.cls = rn_Q ∧ my_Q_hasRoom.cls ≠ "java/lang/invoke/MethodHandle" ∧ my_Q_hasRoom.cls ≠ "java/lang/invoke/VarHandle" ∧ (parseMethodDescriptor my_Q_hasRoom.desc).map (fun d => d.parameters.length) = some 0 := by decide +kernel
theorem th_Q_isClosed : my_Q_isClosed.cls = rn_Q ∧ my_Q_isClosed.cls ≠ "java/lang/invoke/MethodHandle" ∧ my_Q_isClosed.cls ≠ "java/lang/invoke/VarHandle" ∧ (parseMethodDescriptor my_Q_isClosed.desc).map (fun d => d.parameters.length) = some 0 := by decide +kernel
theorem th_B_goesBefore : my_B_goesBefore.cls = rn_B ∧ my_B_goesBefore.cls ≠ "java/lang/invoke/MethodHandle" ∧ my_B_goesBefore.cls ≠ "java/lang/invoke/VarHandle" ∧ (parseMethodDescriptor my_B_goesBefore.desc).map (fun d => d.parameters.length) = some 1 := by decide +kernel
theorem th_Q_quality : my_Q_quality.cls = rn_Q ∧ my_Q_quality.cls ≠ "java/lang/invoke/MethodHandle" ∧ my_Q_quality.cls ≠ "java/lang/invoke/VarHandle" ∧ (parseMethodDescriptor my_Q_quality.desc).map (fun d => d.parameters.length) = some 0 := by decide +kernel
theorem th_Q_dropFirst : my_Q_dropFirst.cls = rn_Q ∧ my_Q_dropFirst.cls ≠ "java/lang/invoke/MethodHandle" ∧ my_Q_dropFirst.cls ≠ "java/lang/invoke/VarHandle" ∧ (parseMethodDescriptor my_Q_dropFirst.desc).map (fun d => d.parameters.length) = some 0 := by decide +kernel
theorem th_D_start : my_D_start.cls = rn_D ∧ my_D_start.cls ≠ "java/lang/invoke/MethodHandle" ∧ my_D_start.cls ≠ "java/lang/invoke/VarHandle" ∧ (parseMethodDescriptor my_D_start.desc).map (fun d => d.parameters.length) = some 1 := by decide +kernel
theorem th_D_conclude : my_D_conclude.cls = rn_D ∧ my_D_conclude.cls ≠ "java/lang/invoke/MethodHandle" ∧ my_D_conclude.cls ≠ "java/lang/invoke/VarHandle" ∧ (parseMethodDescriptor my_D_conclude.desc).map (fun d => d.parameters.length) = some 2 := by decide +kernel
theorem th_D_finish : my_D_finish.cls = rn_D ∧ my_D_finish.cls ≠ "java/lang/invoke/MethodHandle" ∧ my_D_finish.cls ≠ "java/lang/invoke/VarHandle" ∧ (parseMethodDescriptor my_D_finish.desc).map (fun d => d.parameters.length) = some 1 := by decide +kernel
theorem th_D_withdraw : my_D_withdraw.cls = rn_D ∧ my_D_withdraw.cls ≠ "java/lang/invoke/MethodHandle" ∧ my_D_withdraw.cls ≠ "java/lang/invoke/VarHandle" ∧ (parseMethodDescriptor my_D_withdraw.desc).map (fun d => d.parameters.length) = some 1 := by decide +kernel
theorem th_D_advance : my_D_advance.cls = rn_D ∧ my_D_advance.cls ≠ "java/lang/invoke/MethodHandle" ∧ my_D_advance.cls ≠ "java/lang/invoke/VarHandle" ∧ (parseMethodDescriptor my_D_advance.desc).map (fun d => d.parameters.length) = some 1 := by decide +kernel
theorem th_D_nextDue : my_D_nextDue.cls = rn_D ∧ my_D_nextDue.cls ≠ "java/lang/invoke/MethodHandle" ∧ my_D_nextDue.cls ≠ "java/lang/invoke/VarHandle" ∧ (parseMethodDescriptor my_D_nextDue.desc).map (fun d => d.parameters.length) = some 0 := by decide +kernel
theorem th_D_now : my_D_now.cls = rn_D ∧ my_D_now.cls ≠ "java/lang/invoke/MethodHandle" ∧ my_D_now.cls ≠ "java/lang/invoke/VarHandle" ∧ (parseMethodDescriptor my_D_now.desc).map (fun d => d.parameters.length) = some 0 := by decide +kernel
theorem th_D_state : my_D_state.cls = rn_D ∧ my_D_state.cls ≠ "java/lang/invoke/MethodHandle" ∧ my_D_state.cls ≠ "java/lang/invoke/VarHandle" ∧ (parseMethodDescriptor my_D_state.desc).map (fun d => d.parameters.length) = some 1 := by decide +kernel
theorem th_D_queued : my_D_queued.cls = rn_D ∧ my_D_queued.cls ≠ "java/lang/invoke/MethodHandle" ∧ my_D_queued.cls ≠ "java/lang/invoke/VarHandle" ∧ (parseMethodDescriptor my_D_queued.desc).map (fun d => d.parameters.length) = some 1 := by decide +kernel
theorem th_D_through : my_D_through.cls = rn_D ∧ my_D_through.cls ≠ "java/lang/invoke/MethodHandle" ∧ my_D_through.cls ≠ "java/lang/invoke/VarHandle" ∧ (parseMethodDescriptor my_D_through.desc).map (fun d => d.parameters.length) = some 1 := by decide +kernel
theorem th_D_peak : my_D_peak.cls = rn_D ∧ my_D_peak.cls ≠ "java/lang/invoke/MethodHandle" ∧ my_D_peak.cls ≠ "java/lang/invoke/VarHandle" ∧ (parseMethodDescriptor my_D_peak.desc).map (fun d => d.parameters.length) = some 1 := by decide +kernel
theorem th_D_count : my_D_count.cls = rn_D ∧ my_D_count.cls ≠ "java/lang/invoke/MethodHandle" ∧ my_D_count.cls ≠ "java/lang/invoke/VarHandle" ∧ (parseMethodDescriptor my_D_count.desc).map (fun d => d.parameters.length) = some 1 := by decide +kernel
theorem th_D_ready : my_D_ready.cls = rn_D ∧ my_D_ready.cls ≠ "java/lang/invoke/MethodHandle" ∧ my_D_ready.cls ≠ "java/lang/invoke/VarHandle" ∧ (parseMethodDescriptor my_D_ready.desc).map (fun d => d.parameters.length) = some 0 := by decide +kernel
theorem th_M_init : my_M_init.cls = rn_M ∧ my_M_init.cls ≠ "java/lang/invoke/MethodHandle" ∧ my_M_init.cls ≠ "java/lang/invoke/VarHandle" ∧ (parseMethodDescriptor my_M_init.desc).map (fun d => d.parameters.length) = some 1 := by decide +kernel
theorem th_M_queue : my_M_queue.cls = rn_M ∧ my_M_queue.cls ≠ "java/lang/invoke/MethodHandle" ∧ my_M_queue.cls ≠ "java/lang/invoke/VarHandle" ∧ (parseMethodDescriptor my_M_queue.desc).map (fun d => d.parameters.length) = some 2 := by decide +kernel
theorem th_M_isQueue : my_M_isQueue.cls = rn_M ∧ my_M_isQueue.cls ≠ "java/lang/invoke/MethodHandle" ∧ my_M_isQueue.cls ≠ "java/lang/invoke/VarHandle" ∧ (parseMethodDescriptor my_M_isQueue.desc).map (fun d => d.parameters.length) = some 1 := by decide +kernel
theorem th_M_retarget : my_M_retarget.cls = rn_M ∧ my_M_retarget.cls ≠ "java/lang/invoke/MethodHandle" ∧ my_M_retarget.cls ≠ "java/lang/invoke/VarHandle" ∧ (parseMethodDescriptor my_M_retarget.desc).map (fun d => d.parameters.length) = some 2 := by decide +kernel
theorem th_M_leads : my_M_leads.cls = rn_M ∧ my_M_leads.cls ≠ "java/lang/invoke/MethodHandle" ∧ my_M_leads.cls ≠ "java/lang/invoke/VarHandle" ∧ (parseMethodDescriptor my_M_leads.desc).map (fun d => d.parameters.length) = some 2 := by decide +kernel
theorem th_M_passing : my_M_passing.cls = rn_M ∧ my_M_passing.cls ≠ "java/lang/invoke/MethodHandle" ∧ my_M_passing.cls ≠ "java/lang/invoke/VarHandle" ∧ (parseMethodDescriptor my_M_passing.desc).map (fun d => d.parameters.length) = some 1 := by decide +kernel
theorem th_M_live : my_M_live.cls = rn_M ∧ my_M_live.cls ≠ "java/lang/invoke/MethodHandle" ∧ my_M_live.cls ≠ "java/lang/invoke/VarHandle" ∧ (parseMethodDescriptor my_M_live.desc).map (fun d => d.parameters.length) = some 1 := by decide +kernel
theorem th_M_submit : my_M_submit.cls = rn_M ∧ my_M_submit.cls ≠ "java/lang/invoke/MethodHandle" ∧ my_M_submit.cls ≠ "java/lang/invoke/VarHandle" ∧ (parseMethodDescriptor my_M_submit.desc).map (fun d => d.parameters.length) = some 3 := by decide +kernel
theorem th_M_accept : my_M_accept.cls = rn_M ∧ my_M_accept.cls ≠ "java/lang/invoke/MethodHandle" ∧ my_M_accept.cls ≠ "java/lang/invoke/VarHandle" ∧ (parseMethodDescriptor my_M_accept.desc).map (fun d => d.parameters.length) = some 2 := by decide +kernel
theorem th_M_line : my_M_line.cls = rn_M ∧ my_M_line.cls ≠ "java/lang/invoke/MethodHandle" ∧ my_M_line.cls ≠ "java/lang/invoke/VarHandle" ∧ (parseMethodDescriptor my_M_line.desc).map (fun d => d.parameters.length) = some 1 := by decide +kernel
theorem th_M_after : my_M_after.cls = rn_M ∧ my_M_after.cls ≠ "java/lang/invoke/MethodHandle" ∧ my_M_after.cls ≠ "java/lang/invoke/VarHandle" ∧ (parseMethodDescriptor my_M_after.desc).map (fun d => d.parameters.length) = some 2 := by decide +kernel
theorem th_M_call : my_M_call.cls = rn_M ∧ my_M_call.cls ≠ "java/lang/invoke/MethodHandle" ∧ my_M_call.cls ≠ "java/lang/invoke/VarHandle" ∧ (parseMethodDescriptor my_M_call.desc).map (fun d => d.parameters.length) = some 3 := by decide +kernel
theorem th_M_isBlock : my_M_isBlock.cls = rn_M ∧ my_M_isBlock.cls ≠ "java/lang/invoke/MethodHandle" ∧ my_M_isBlock.cls ≠ "java/lang/invoke/VarHandle" ∧ (parseMethodDescriptor my_M_isBlock.desc).map (fun d => d.parameters.length) = some 1 := by decide +kernel
theorem th_M_inTheWay : my_M_inTheWay.cls = rn_M ∧ my_M_inTheWay.cls ≠ "java/lang/invoke/MethodHandle" ∧ my_M_inTheWay.cls ≠ "java/lang/invoke/VarHandle" ∧ (parseMethodDescriptor my_M_inTheWay.desc).map (fun d => d.parameters.length) = some 3 := by decide +kernel
theorem th_M_whenDone : my_M_whenDone.cls = rn_M ∧ my_M_whenDone.cls ≠ "java/lang/invoke/MethodHandle" ∧ my_M_whenDone.cls ≠ "java/lang/invoke/VarHandle" ∧ (parseMethodDescriptor my_M_whenDone.desc).map (fun d => d.parameters.length) = some 2 := by decide +kernel
theorem th_M_countOf : my_M_countOf.cls = rn_M ∧ my_M_countOf.cls ≠ "java/lang/invoke/MethodHandle" ∧ my_M_countOf.cls ≠ "java/lang/invoke/VarHandle" ∧ (parseMethodDescriptor my_M_countOf.desc).map (fun d => d.parameters.length) = some 1 := by decide +kernel
theorem th_M_enter : my_M_enter.cls = rn_M ∧ my_M_enter.cls ≠ "java/lang/invoke/MethodHandle" ∧ my_M_enter.cls ≠ "java/lang/invoke/VarHandle" ∧ (parseMethodDescriptor my_M_enter.desc).map (fun d => d.parameters.length) = some 1 := by decide +kernel
theorem th_M_leave : my_M_leave.cls = rn_M ∧ my_M_leave.cls ≠ "java/lang/invoke/MethodHandle" ∧ my_M_leave.cls ≠ "java/lang/invoke/VarHandle" ∧ (parseMethodDescriptor my_M_leave.desc).map (fun d => d.parameters.length) = some 1 := by decide +kernel
theorem th_M_release : my_M_release.cls = rn_M ∧ my_M_release.cls ≠ "java/lang/invoke/MethodHandle" ∧ my_M_release.cls ≠ "java/lang/invoke/VarHandle" ∧ (parseMethodDescriptor my_M_release.desc).map (fun d => d.parameters.length) = some 1 := by decide +kernel
theorem th_M_cancel : my_M_cancel.cls = rn_M ∧ my_M_cancel.cls ≠ "java/lang/invoke/MethodHandle" ∧ my_M_cancel.cls ≠ "java/lang/invoke/VarHandle" ∧ (parseMethodDescriptor my_M_cancel.desc).map (fun d => d.parameters.length) = some 1 := by decide +kernel
theorem th_M_hold : my_M_hold.cls = rn_M ∧ my_M_hold.cls ≠ "java/lang/invoke/MethodHandle" ∧ my_M_hold.cls ≠ "java/lang/invoke/VarHandle" ∧ (parseMethodDescriptor my_M_hold.desc).map (fun d => d.parameters.length) = some 2 := by decide +kernel
theorem th_M_begin : my_M_begin.cls = rn_M ∧ my_M_begin.cls ≠ "java/lang/invoke/MethodHandle" ∧ my_M_begin.cls ≠ "java/lang/invoke/VarHandle" ∧ (parseMethodDescriptor my_M_begin.desc).map (fun d => d.parameters.length) = some 0 := by decide +kernel
theorem th_M_chosen : my_M_chosen.cls = rn_M ∧ my_M_chosen.cls ≠ "java/lang/invoke/MethodHandle" ∧ my_M_chosen.cls ≠ "java/lang/invoke/VarHandle" ∧ (parseMethodDescriptor my_M_chosen.desc).map (fun d => d.parameters.length) = some 0 := by decide +kernel
theorem th_M_mayStart : my_M_mayStart.cls = rn_M ∧ my_M_mayStart.cls ≠ "java/lang/invoke/MethodHandle" ∧ my_M_mayStart.cls ≠ "java/lang/invoke/VarHandle" ∧ (parseMethodDescriptor my_M_mayStart.desc).map (fun d => d.parameters.length) = some 1 := by decide +kernel
theorem th_M_oldest : my_M_oldest.cls = rn_M ∧ my_M_oldest.cls ≠ "java/lang/invoke/MethodHandle" ∧ my_M_oldest.cls ≠ "java/lang/invoke/VarHandle" ∧ (parseMethodDescriptor my_M_oldest.desc).map (fun d => d.parameters.length) = some 1 := by decide +kernel
theorem th_M_workersInUse : my_M_workersInUse.cls = rn_M ∧ my_M_workersInUse.cls ≠ "java/lang/invoke/MethodHandle" ∧ my_M_workersInUse.cls ≠ "java/lang/invoke/VarHandle" ∧ (parseMethodDescriptor my_M_workersInUse.desc).map (fun d => d.parameters.length) = some 0 := by decide +kernel
theorem th_M_lets : my_M_lets.cls = rn_M ∧ my_M_lets.cls ≠ "java/lang/invoke/MethodHandle" ∧ my_M_lets.cls ≠ "java/lang/invoke/VarHandle" ∧ (parseMethodDescriptor my_M_lets.desc).map (fun d => d.parameters.length) = some 2 := by decide +kernel
theorem th_M_barrierRuns : my_M_barrierRuns.cls = rn_M ∧ my_M_barrierRuns.cls ≠ "java/lang/invoke/MethodHandle" ∧ my_M_barrierRuns.cls ≠ "java/lang/invoke/VarHandle" ∧ (parseMethodDescriptor my_M_barrierRuns.desc).map (fun d => d.parameters.length) = some 1 := by decide +kernel
theorem th_M_root : my_M_root.cls = rn_M ∧ my_M_root.cls ≠ "java/lang/invoke/MethodHandle" ∧ my_M_root.cls ≠ "java/lang/invoke/VarHandle" ∧ (parseMethodDescriptor my_M_root.desc).map (fun d => d.parameters.length) = some 1 := by decide +kernel
theorem th_M_end : my_M_end.cls = rn_M ∧ my_M_end.cls ≠ "java/lang/invoke/MethodHandle" ∧ my_M_end.cls ≠ "java/lang/invoke/VarHandle" ∧ (parseMethodDescriptor my_M_end.desc).map (fun d => d.parameters.length) = some 2 := by decide +kernel
theorem th_M_finish : my_M_finish.cls = rn_M ∧ my_M_finish.cls ≠ "java/lang/invoke/MethodHandle" ∧ my_M_finish.cls ≠ "java/lang/invoke/VarHandle" ∧ (parseMethodDescriptor my_M_finish.desc).map (fun d => d.parameters.length) = some 1 := by decide +kernel
theorem th_M_advance : my_M_advance.cls = rn_M ∧ my_M_advance.cls ≠ "java/lang/invoke/MethodHandle" ∧ my_M_advance.cls ≠ "java/lang/invoke/VarHandle" ∧ (parseMethodDescriptor my_M_advance.desc).map (fun d => d.parameters.length) = some 1 := by decide +kernel
theorem th_M_due : my_M_due.cls = rn_M ∧ my_M_due.cls ≠ "java/lang/invoke/MethodHandle" ∧ my_M_due.cls ≠ "java/lang/invoke/VarHandle" ∧ (parseMethodDescriptor my_M_due.desc).map (fun d => d.parameters.length) = some 0 := by decide +kernel
theorem th_M_now : my_M_now.cls = rn_M ∧ my_M_now.cls ≠ "java/lang/invoke/MethodHandle" ∧ my_M_now.cls ≠ "java/lang/invoke/VarHandle" ∧ (parseMethodDescriptor my_M_now.desc).map (fun d => d.parameters.length) = some 0 := by decide +kernel
theorem th_M_state : my_M_state.cls = rn_M ∧ my_M_state.cls ≠ "java/lang/invoke/MethodHandle" ∧ my_M_state.cls ≠ "java/lang/invoke/VarHandle" ∧ (parseMethodDescriptor my_M_state.desc).map (fun d => d.parameters.length) = some 1 := by decide +kernel
theorem th_M_queued : my_M_queued.cls = rn_M ∧ my_M_queued.cls ≠ "java/lang/invoke/MethodHandle" ∧ my_M_queued.cls ≠ "java/lang/invoke/VarHandle" ∧ (parseMethodDescriptor my_M_queued.desc).map (fun d => d.parameters.length) = some 1 := by decide +kernel
theorem th_M_through : my_M_through.cls = rn_M ∧ my_M_through.cls ≠ "java/lang/invoke/MethodHandle" ∧ my_M_through.cls ≠ "java/lang/invoke/VarHandle" ∧ (parseMethodDescriptor my_M_through.desc).map (fun d => d.parameters.length) = some 1 := by decide +kernel
theorem th_M_peak : my_M_peak.cls = rn_M ∧ my_M_peak.cls ≠ "java/lang/invoke/MethodHandle" ∧ my_M_peak.cls ≠ "java/lang/invoke/VarHandle" ∧ (parseMethodDescriptor my_M_peak.desc).map (fun d => d.parameters.length) = some 1 := by decide +kernel
theorem th_M_count : my_M_count.cls = rn_M ∧ my_M_count.cls ≠ "java/lang/invoke/MethodHandle" ∧ my_M_count.cls ≠ "java/lang/invoke/VarHandle" ∧ (parseMethodDescriptor my_M_count.desc).map (fun d => d.parameters.length) = some 1 := by decide +kernel
theorem th_M_ready : my_M_ready.cls = rn_M ∧ my_M_ready.cls ≠ "java/lang/invoke/MethodHandle" ∧ my_M_ready.cls ≠ "java/lang/invoke/VarHandle" ∧ (parseMethodDescriptor my_M_ready.desc).map (fun d => d.parameters.length) = some 0 := by decide +kernel
end
section
/-! Part 10: the reference: isQueue, isBlock, leads, root, live. By wip/gen/gen_ref1.py. -/
theorem bd_in_1 {q : Int32} {n : Nat} (h : q < 0) : bd_in q n = false := by
  have h1 : q.toInt < 0 := by simpa using Int32.lt_iff_toInt_lt.mp h
  simp only [bd_in, decide_eq_false_iff_not]
  omega
theorem bd_in_2 {q : Int32} {n : Nat} (hn : n < 2 ^ 31) (h : nI n ≤ q) : bd_in q n = false := by
  have h1 := Int32.le_iff_toInt_le.mp h
  rw [nI_toInt hn] at h1
  simp only [bd_in, decide_eq_false_iff_not]
  omega
theorem bd_in_3 {q : Int32} {n : Nat} (hn : n < 2 ^ 31) (h1 : ¬ q < 0) (h2 : ¬ nI n ≤ q) : bd_in q n = true := by
  have h3 : ¬ q.toInt < 0 := fun z => h1 (Int32.lt_iff_toInt_lt.mpr (by simpa using z))
  have h4 : ¬ (n : Int) ≤ q.toInt := fun z => h2 (Int32.le_iff_toInt_le.mpr (by rw [nI_toInt hn]; exact z))
  simp only [bd_in, decide_eq_true_eq]
  omega
set_option maxHeartbeats 4000000 in
set_option maxRecDepth 100000 in
theorem rc_isQueue (l : Launch) (D : va_G) (ra : Nat → Nat) (ca : Nat → ClassId) (N : sp_N) (O : sp_O) (Z : sp_Z) (B : sp_B) (hB : sp_Bd N O) (q : Int32) : Met l my_M_isQueue (Cond.code my_M_isQueue cd_M_isQueue 2 (some .boolean) :: bg_tbl) ({ frames := 0, cells := 0, slots := 0, locals := 0 }) (va_Pc [.ref (ra 0), .int q] (rf_U D ra ca N O Z B)) (vp_Si (fun r => r = bd_b (bd_in q (N 1 0)))) 0 0 (fun _ => False) := by
  refine Met.ofW (cc := cd_M_isQueue) (maxL := 2) (ret := (some .boolean)) (by decide) rfl ?_
  intro p e s m args below meth c s₁ BB hml hv
  obtain ⟨rfl, hP, hK⟩ := hv
  have hx := BB.exec
  have hb := BB.bytes
  have hr := BB.returns
  have hts : ∀ w ∈ bg_tbl, w.before ([.ref (ra 0), .int q] : List Value).toArray s = true := fun w h => atoms_spec (ws := (Cond.code my_M_isQueue cd_M_isQueue 2 (some .boolean) :: bg_tbl)) BB.pre w (List.mem_cons_of_mem _ h)
  have hown : s.vm.findClass rn_M = some m.cls := findClass_of_methodNamed BB.named
  have hlocks := BB.notSynchronized
  obtain ⟨hB_0, hB_1, hB_2, hB_3, hB_4, hB_5, hB_6, hB_7, hB_8, hB_9, hB_10, hB_11, hB_12, hB_17⟩ := id hB
  have hl := lv_entry ([.ref (ra 0), .int q]) (n := 2) (Nat.le_of_ble_eq_true rfl)
  rw [lg_entry_eq]
  generalize (lg_sl ([.ref (ra 0), .int q]) ++ List.replicate (2 - (lg_sl ([.ref (ra 0), .int q])).length) Slot.unset).toArray = ls at hl ⊢
  have hl : lv_has ls 2 [(0, .ref (ra 0)), (1, .int q)] := hl
  refine lv_iload_n hx hb dd_M_isQueue_0 rfl (lv_at hl 1 rfl) ?_
  refine lv_if_lt (tgt := 16) hx hb dd_M_isQueue_1 rfl (fun h1 => ?_) (fun h1 => ?_)
  · refine lv_iconst (v := bd_b false) hx hb dd_M_isQueue_16 (by decide) ?_
    exact W.zret (ty := .boolean) hx hb hr (bd_b_nar _) (fun tt htt hWW => ⟨_, rfl, (by rw [bd_in_1 h1]), htt⟩) (fun _ h => by cases h) dd_M_isQueue_17
  · refine lv_iload_n hx hb dd_M_isQueue_4 rfl (lv_at hl 1 rfl) ?_
    refine lv_aload_n hx hb dd_M_isQueue_5 rfl (lv_at hl 0 rfl) ?_
    refine va_get (D := D) (ci := 4) (v := .int (nI (N 1 0))) (C := rn_M) (T := ft_M) (N := 19) hx hb hts tw_fs_M hown hK hP 0 rfl rfl 1 (by decide) (hts _ tw_fl_M_7) (fun _ h9 => h9) rfl dd_M_isQueue_6 ?_
    refine lv_icmp_ge (tgt := 16) hx hb dd_M_isQueue_9 rfl (fun h9 => ?_) (fun h9 => ?_)
    · refine lv_iconst (v := bd_b false) hx hb dd_M_isQueue_16 (by decide) ?_
      exact W.zret (ty := .boolean) hx hb hr (bd_b_nar _) (fun tt htt hWW => ⟨_, rfl, (by rw [bd_in_2 (Nat.lt_of_le_of_lt hB_1 (by decide)) h9]), htt⟩) (fun _ h => by cases h) dd_M_isQueue_17
    · refine lv_iconst (v := bd_b true) hx hb dd_M_isQueue_12 (by decide) ?_
      refine lv_goto (tgt := 17) hx hb dd_M_isQueue_13 rfl ?_
      exact W.zret (ty := .boolean) hx hb hr (bd_b_nar _) (fun tt htt hWW => ⟨_, rfl, (by rw [bd_in_3 (Nat.lt_of_le_of_lt hB_1 (by decide)) h1 h9]), htt⟩) (fun _ h => by cases h) dd_M_isQueue_17

set_option maxHeartbeats 4000000 in
set_option maxRecDepth 100000 in
theorem rc_isBlock (l : Launch) (D : va_G) (ra : Nat → Nat) (ca : Nat → ClassId) (N : sp_N) (O : sp_O) (Z : sp_Z) (B : sp_B) (hB : sp_Bd N O) (q : Int32) : Met l my_M_isBlock (Cond.code my_M_isBlock cd_M_isBlock 2 (some .boolean) :: bg_tbl) ({ frames := 0, cells := 0, slots := 0, locals := 0 }) (va_Pc [.ref (ra 0), .int q] (rf_U D ra ca N O Z B)) (vp_Si (fun r => r = bd_b (bd_in q (N 6 0)))) 0 0 (fun _ => False) := by
  refine Met.ofW (cc := cd_M_isBlock) (maxL := 2) (ret := (some .boolean)) (by decide) rfl ?_
  intro p e s m args below meth c s₁ BB hml hv
  obtain ⟨rfl, hP, hK⟩ := hv
  have hx := BB.exec
  have hb := BB.bytes
  have hr := BB.returns
  have hts : ∀ w ∈ bg_tbl, w.before ([.ref (ra 0), .int q] : List Value).toArray s = true := fun w h => atoms_spec (ws := (Cond.code my_M_isBlock cd_M_isBlock 2 (some .boolean) :: bg_tbl)) BB.pre w (List.mem_cons_of_mem _ h)
  have hown : s.vm.findClass rn_M = some m.cls := findClass_of_methodNamed BB.named
  have hlocks := BB.notSynchronized
  obtain ⟨hB_0, hB_1, hB_2, hB_3, hB_4, hB_5, hB_6, hB_7, hB_8, hB_9, hB_10, hB_11, hB_12, hB_17⟩ := id hB
  have hl := lv_entry ([.ref (ra 0), .int q]) (n := 2) (Nat.le_of_ble_eq_true rfl)
  rw [lg_entry_eq]
  generalize (lg_sl ([.ref (ra 0), .int q]) ++ List.replicate (2 - (lg_sl ([.ref (ra 0), .int q])).length) Slot.unset).toArray = ls at hl ⊢
  have hl : lv_has ls 2 [(0, .ref (ra 0)), (1, .int q)] := hl
  refine lv_iload_n hx hb dd_M_isBlock_0 rfl (lv_at hl 1 rfl) ?_
  refine lv_if_lt (tgt := 16) hx hb dd_M_isBlock_1 rfl (fun h1 => ?_) (fun h1 => ?_)
  · refine lv_iconst (v := bd_b false) hx hb dd_M_isBlock_16 (by decide) ?_
    exact W.zret (ty := .boolean) hx hb hr (bd_b_nar _) (fun tt htt hWW => ⟨_, rfl, (by rw [bd_in_1 h1]), htt⟩) (fun _ h => by cases h) dd_M_isBlock_17
  · refine lv_iload_n hx hb dd_M_isBlock_4 rfl (lv_at hl 1 rfl) ?_
    refine lv_aload_n hx hb dd_M_isBlock_5 rfl (lv_at hl 0 rfl) ?_
    refine va_get (D := D) (ci := 4) (v := .int (nI (N 6 0))) (C := rn_M) (T := ft_M) (N := 19) hx hb hts tw_fs_M hown hK hP 0 rfl rfl 6 (by decide) (hts _ tw_fl_M_61) (fun _ h9 => h9) rfl dd_M_isBlock_6 ?_
    refine lv_icmp_ge (tgt := 16) hx hb dd_M_isBlock_9 rfl (fun h9 => ?_) (fun h9 => ?_)
    · refine lv_iconst (v := bd_b false) hx hb dd_M_isBlock_16 (by decide) ?_
      exact W.zret (ty := .boolean) hx hb hr (bd_b_nar _) (fun tt htt hWW => ⟨_, rfl, (by rw [bd_in_2 (Nat.lt_of_le_of_lt hB_6 (by decide)) h9]), htt⟩) (fun _ h => by cases h) dd_M_isBlock_17
    · refine lv_iconst (v := bd_b true) hx hb dd_M_isBlock_12 (by decide) ?_
      refine lv_goto (tgt := 17) hx hb dd_M_isBlock_13 rfl ?_
      exact W.zret (ty := .boolean) hx hb hr (bd_b_nar _) (fun tt htt hWW => ⟨_, rfl, (by rw [bd_in_3 (Nat.lt_of_le_of_lt hB_6 (by decide)) h1 h9]), htt⟩) (fun _ h => by cases h) dd_M_isBlock_17

set_option maxHeartbeats 4000000 in
set_option maxRecDepth 100000 in
theorem rc_leads (l : Launch) (D : va_G) (ra : Nat → Nat) (ca : Nat → ClassId) (N : sp_N) (O : sp_O) (Z : sp_Z) (B : sp_B) (hB : sp_Bd N O) (a b : Nat) (ha : a < 12) (hb2 : b < 2 ^ 31) : Met l my_M_leads (Cond.code my_M_leads cd_M_leads 5 (some .boolean) :: bg_tbl) ({ frames := 0, cells := 0, slots := 0, locals := 0 }) (va_Pc [.ref (ra 0), .int (nI a), .int (nI b)] (rf_U D ra ca N O Z B)) (vp_Si (fun r => r = bd_b (sp_l N a b))) 0 0 (fun _ => False) := by
  refine Met.ofW (cc := cd_M_leads) (maxL := 5) (ret := (some .boolean)) (by decide) rfl ?_
  intro p e s m args below meth c s₁ BB hml hv
  obtain ⟨rfl, hP, hK⟩ := hv
  have hx := BB.exec
  have hb := BB.bytes
  have hr := BB.returns
  have hts : ∀ w ∈ bg_tbl, w.before ([.ref (ra 0), .int (nI a), .int (nI b)] : List Value).toArray s = true := fun w h => atoms_spec (ws := (Cond.code my_M_leads cd_M_leads 5 (some .boolean) :: bg_tbl)) BB.pre w (List.mem_cons_of_mem _ h)
  have hown : s.vm.findClass rn_M = some m.cls := findClass_of_methodNamed BB.named
  have hlocks := BB.notSynchronized
  obtain ⟨hB_0, hB_1, hB_2, hB_3, hB_4, hB_5, hB_6, hB_7, hB_8, hB_9, hB_10, hB_11, hB_12, hB_17⟩ := id hB
  have hl := lv_entry ([.ref (ra 0), .int (nI a), .int (nI b)]) (n := 5) (Nat.le_of_ble_eq_true rfl)
  rw [lg_entry_eq]
  generalize (lg_sl ([.ref (ra 0), .int (nI a), .int (nI b)]) ++ List.replicate (5 - (lg_sl ([.ref (ra 0), .int (nI a), .int (nI b)])).length) Slot.unset).toArray = ls at hl ⊢
  have hl : lv_has ls 5 [(0, .ref (ra 0)), (1, .int (nI a)), (2, .int (nI b))] := hl
  have lp : ∀ (n : Nat) (y k : Nat) (ls : Array Slot), (n + k = 12) → (y < 12) → (sp_k N n y b = sp_l N a b) →  lv_has ls 5 [(0, .ref (ra 0)), (2, .int (nI b)), (3, .int (nI y)), (4, .int (nI k))] → W p l e (headSpec (Cond.code my_M_leads cd_M_leads 5 (some .boolean) :: bg_tbl) ({ frames := 0, cells := 0, slots := 0, locals := 0 })).room s m ([.ref (ra 0), .int (nI a), .int (nI b)] : List Value).toArray below meth c s.heap [] 0 0 (MQ below (vp_Si (fun r => r = bd_b (sp_l N a b))) ([.ref (ra 0), .int (nI a), .int (nI b)] : List Value).toArray s 0 0 (fun _ => False)) (F0 m 5 ls []) := by
    intro n
    induction n with
    | zero =>
      intro y k ls hk hy he hl
      refine lv_iload hx hb dd_M_leads_5 (lv_at hl 3 rfl) ?_
      refine lv_bipush (v := nI 12) hx hb dd_M_leads_7 (by decide) ?_
      refine bq_ge (tgt := 39) hx hb (by omega) (by decide) dd_M_leads_9 rfl (fun h9 => ?_) (fun h9 => ?_)
      · refine lv_iconst (v := bd_b false) hx hb dd_M_leads_39 (by decide) ?_
        exact W.zret (ty := .boolean) hx hb hr (bd_b_nar _) (fun tt htt hWW => ⟨_, rfl, (by rw [← he]; rfl), htt⟩) (fun _ h => by cases h) dd_M_leads_40
      · exact absurd h9 (by omega)
    | succ n ih =>
      intro y k ls hk hy he hl
      refine lv_iload hx hb dd_M_leads_5 (lv_at hl 3 rfl) ?_
      refine lv_bipush (v := nI 12) hx hb dd_M_leads_7 (by decide) ?_
      refine bq_ge (tgt := 39) hx hb (by omega) (by decide) dd_M_leads_9 rfl (fun h9 => ?_) (fun h9 => ?_)
      · exact absurd h9 (by omega)
      · refine lv_iload_n hx hb dd_M_leads_12 rfl (lv_at hl 2 rfl) ?_
        refine lv_iload_n hx hb dd_M_leads_13 rfl (lv_at hl 1 rfl) ?_
        refine bq_ne (tgt := 19) hx hb (by omega) (by omega) dd_M_leads_14 rfl (fun h14 => ?_) (fun h14 => ?_)
        · refine lv_iload_n hx hb dd_M_leads_19 rfl (lv_at hl 2 rfl) ?_
          refine lv_iconst (v := nI 3) hx hb dd_M_leads_20 (by decide) ?_
          refine bq_ge (tgt := 26) hx hb (by omega) (by decide) dd_M_leads_21 rfl (fun h21 => ?_) (fun h21 => ?_)
          · refine lv_aload_n hx hb dd_M_leads_26 rfl (lv_at hl 0 rfl) ?_
            refine va_get (D := D) (ci := 4) (v := .ref (ra 2)) (C := rn_M) (T := ft_M) (N := 19) hx hb hts tw_fs_M hown hK hP 0 rfl rfl 2 (by decide) (hts _ tw_fl_M_13) (fun _ h9 => h9) rfl dd_M_leads_27 ?_
            refine lv_iload_n hx hb dd_M_leads_30 rfl (lv_at hl 2 rfl) ?_
            refine bq_iald hx hb hK hP 1 0 rfl rfl hy (by decide) dd_M_leads_31 ?_
            refine lv_istore_n hx hb dd_M_leads_32 rfl hl (by decide) rfl (fun ls hl => ?_)
            have hl : lv_has ls 5 [(3, .int (nI (N 2 y))), (0, .ref (ra 0)), (2, .int (nI b)), (4, .int (nI k))] := hl
            refine lv_iinc (k := 3) (v := nI (k + 1)) hx hb dd_M_leads_33 hl rfl (nI_1 _) (by decide) rfl (fun ls hl => ?_)
            have hl : lv_has ls 5 [(4, .int (nI (k + 1))), (3, .int (nI (N 2 y))), (0, .ref (ra 0)), (2, .int (nI b))] := hl
            refine lv_goto (tgt := 5) hx hb dd_M_leads_36 rfl ?_
            exact ih (N 2 y) (k + 1) ls (by omega) (hB_2 y) (by rw [← he, sp_k, if_neg h14, if_neg (by omega)]) (lv_sub hl [2, 3, 1, 0] rfl)
          · refine lv_iconst (v := bd_b false) hx hb dd_M_leads_24 (by decide) ?_
            exact W.zret (ty := .boolean) hx hb hr (bd_b_nar _) (fun tt htt hWW => ⟨_, rfl, (by rw [← he, sp_k, if_neg h14, if_pos h21]), htt⟩) (fun _ h => by cases h) dd_M_leads_25
        · refine lv_iconst (v := bd_b true) hx hb dd_M_leads_17 (by decide) ?_
          exact W.zret (ty := .boolean) hx hb hr (bd_b_nar _) (fun tt htt hWW => ⟨_, rfl, (by rw [← he, sp_k, if_pos h14]), htt⟩) (fun _ h => by cases h) dd_M_leads_18
  refine lv_iload_n hx hb dd_M_leads_0 rfl (lv_at hl 1 rfl) ?_
  refine lv_istore_n hx hb dd_M_leads_1 rfl hl (by decide) rfl (fun ls hl => ?_)
  have hl : lv_has ls 5 [(3, .int (nI a)), (0, .ref (ra 0)), (1, .int (nI a)), (2, .int (nI b))] := hl
  refine lv_iconst (v := nI 0) hx hb dd_M_leads_2 (by decide) ?_
  refine lv_istore hx hb dd_M_leads_3 hl (by decide) rfl (fun ls hl => ?_)
  have hl : lv_has ls 5 [(4, .int (nI 0)), (3, .int (nI a)), (0, .ref (ra 0)), (1, .int (nI a)), (2, .int (nI b))] := hl
  exact lp 12 a 0 ls (by omega) ha rfl (lv_sub hl [2, 4, 1, 0] rfl)

set_option maxHeartbeats 4000000 in
set_option maxRecDepth 100000 in
theorem rc_root (l : Launch) (D : va_G) (ra : Nat → Nat) (ca : Nat → ClassId) (N : sp_N) (O : sp_O) (Z : sp_Z) (B : sp_B) (hB : sp_Bd N O) (a : Nat) (ha : a < 12) : Met l my_M_root (Cond.code my_M_root cd_M_root 2 (some .int) :: bg_tbl) ({ frames := 1, cells := 0, slots := 0, locals := 24 }) (va_Pc [.ref (ra 0), .int (nI a)] (rf_U D ra ca N O Z B)) (vp_Si (fun r => r = nI (sp_r N a))) 0 0 (fun _ => False) := by
  refine Met.ofW (cc := cd_M_root) (maxL := 2) (ret := (some .int)) (by decide) rfl ?_
  intro p e s m args below meth c s₁ BB hml hv
  obtain ⟨rfl, hP, hK⟩ := hv
  have hx := BB.exec
  have hb := BB.bytes
  have hr := BB.returns
  have hts : ∀ w ∈ bg_tbl, w.before ([.ref (ra 0), .int (nI a)] : List Value).toArray s = true := fun w h => atoms_spec (ws := (Cond.code my_M_root cd_M_root 2 (some .int) :: bg_tbl)) BB.pre w (List.mem_cons_of_mem _ h)
  have hown : s.vm.findClass rn_M = some m.cls := findClass_of_methodNamed BB.named
  have hlocks := BB.notSynchronized
  obtain ⟨hB_0, hB_1, hB_2, hB_3, hB_4, hB_5, hB_6, hB_7, hB_8, hB_9, hB_10, hB_11, hB_12, hB_17⟩ := id hB
  have hl := lv_entry ([.ref (ra 0), .int (nI a)]) (n := 2) (Nat.le_of_ble_eq_true rfl)
  rw [lg_entry_eq]
  generalize (lg_sl ([.ref (ra 0), .int (nI a)]) ++ List.replicate (2 - (lg_sl ([.ref (ra 0), .int (nI a)])).length) Slot.unset).toArray = ls at hl ⊢
  have hl : lv_has ls 2 [(0, .ref (ra 0)), (1, .int (nI a))] := hl
  refine lv_aload_n hx hb dd_M_root_0 rfl (lv_at hl 0 rfl) ?_
  refine lv_iload_n hx hb dd_M_root_1 rfl (lv_at hl 1 rfl) ?_
  refine lv_iconst (v := nI 0) hx hb dd_M_root_2 (by decide) ?_
  refine rf_calli (As := [.int (nI a), .int (nI 0)]) (rest := []) (v := bd_b (sp_l N a 0)) ⟨hx, hb, hml, hown, hts⟩ (rc_leads l D ra ca N O Z B hB a 0 ha (by decide)) (bg_cwV 2 hts tw_ml_M_64 tw_im_M_leads tw_se_M_leads tw_in_M tw_co_M_leads rfl rfl th_M_leads ⟨Nat.le_of_ble_eq_true rfl, Nat.le_of_ble_eq_true rfl⟩) hK hP rfl hl.1 rfl (by decide) dd_M_root_3 ⟨Nat.zero_le _, Nat.zero_le _⟩ ?_
  refine bq_zeq (tgt := 13) hx hb dd_M_root_6 rfl (fun h6 => ?_) (fun h6 => ?_)
  · refine lv_aload_n hx hb dd_M_root_13 rfl (lv_at hl 0 rfl) ?_
    refine lv_iload_n hx hb dd_M_root_14 rfl (lv_at hl 1 rfl) ?_
    refine lv_iconst (v := nI 1) hx hb dd_M_root_15 (by decide) ?_
    refine rf_calli (As := [.int (nI a), .int (nI 1)]) (rest := []) (v := bd_b (sp_l N a 1)) ⟨hx, hb, hml, hown, hts⟩ (rc_leads l D ra ca N O Z B hB a 1 ha (by decide)) (bg_cwV 2 hts tw_ml_M_64 tw_im_M_leads tw_se_M_leads tw_in_M tw_co_M_leads rfl rfl th_M_leads ⟨Nat.le_of_ble_eq_true rfl, Nat.le_of_ble_eq_true rfl⟩) hK hP rfl hl.1 rfl (by decide) dd_M_root_16 ⟨Nat.zero_le _, Nat.zero_le _⟩ ?_
    refine bq_zeq (tgt := 26) hx hb dd_M_root_19 rfl (fun h19 => ?_) (fun h19 => ?_)
    · refine lv_iconst (v := nI 2) hx hb dd_M_root_26 (by decide) ?_
      exact W.iret hx hb hr (fun tt htt hWW => ⟨_, rfl, (by rw [sp_r, if_neg (by rw [h6]; decide), if_neg (by rw [h19]; decide)]), htt⟩) (fun _ h => by cases h) dd_M_root_27
    · refine lv_iconst (v := nI 1) hx hb dd_M_root_22 (by decide) ?_
      refine lv_goto (tgt := 27) hx hb dd_M_root_23 rfl ?_
      exact W.iret hx hb hr (fun tt htt hWW => ⟨_, rfl, (by rw [sp_r, if_neg (by rw [h6]; decide), if_pos h19]), htt⟩) (fun _ h => by cases h) dd_M_root_27
  · refine lv_iconst (v := nI 0) hx hb dd_M_root_9 (by decide) ?_
    refine lv_goto (tgt := 27) hx hb dd_M_root_10 rfl ?_
    exact W.iret hx hb hr (fun tt htt hWW => ⟨_, rfl, (by rw [sp_r, if_pos h6]), htt⟩) (fun _ h => by cases h) dd_M_root_27

set_option maxHeartbeats 4000000 in
set_option maxRecDepth 100000 in
theorem rc_live (l : Launch) (D : va_G) (ra : Nat → Nat) (ca : Nat → ClassId) (N : sp_N) (O : sp_O) (Z : sp_Z) (B : sp_B) (hB : sp_Bd N O) (t : Nat) (ht : t < 160) : Met l my_M_live (Cond.code my_M_live cd_M_live 2 (some .boolean) :: bg_tbl) ({ frames := 0, cells := 0, slots := 0, locals := 0 }) (va_Pc [.ref (ra 0), .int (nI t)] (rf_U D ra ca N O Z B)) (vp_Si (fun r => r = bd_b (sp_v N t))) 0 0 (fun _ => False) := by
  refine Met.ofW (cc := cd_M_live) (maxL := 2) (ret := (some .boolean)) (by decide) rfl ?_
  intro p e s m args below meth c s₁ BB hml hv
  obtain ⟨rfl, hP, hK⟩ := hv
  have hx := BB.exec
  have hb := BB.bytes
  have hr := BB.returns
  have hts : ∀ w ∈ bg_tbl, w.before ([.ref (ra 0), .int (nI t)] : List Value).toArray s = true := fun w h => atoms_spec (ws := (Cond.code my_M_live cd_M_live 2 (some .boolean) :: bg_tbl)) BB.pre w (List.mem_cons_of_mem _ h)
  have hown : s.vm.findClass rn_M = some m.cls := findClass_of_methodNamed BB.named
  have hlocks := BB.notSynchronized
  obtain ⟨hB_0, hB_1, hB_2, hB_3, hB_4, hB_5, hB_6, hB_7, hB_8, hB_9, hB_10, hB_11, hB_12, hB_17⟩ := id hB
  have hl := lv_entry ([.ref (ra 0), .int (nI t)]) (n := 2) (Nat.le_of_ble_eq_true rfl)
  rw [lg_entry_eq]
  generalize (lg_sl ([.ref (ra 0), .int (nI t)]) ++ List.replicate (2 - (lg_sl ([.ref (ra 0), .int (nI t)])).length) Slot.unset).toArray = ls at hl ⊢
  have hl : lv_has ls 2 [(0, .ref (ra 0)), (1, .int (nI t))] := hl
  refine lv_aload_n hx hb dd_M_live_0 rfl (lv_at hl 0 rfl) ?_
  refine va_get (D := D) (ci := 4) (v := .ref (ra 8)) (C := rn_M) (T := ft_M) (N := 19) hx hb hts tw_fs_M hown hK hP 0 rfl rfl 8 (by decide) (hts _ tw_fl_M_29) (fun _ h9 => h9) rfl dd_M_live_1 ?_
  refine lv_iload_n hx hb dd_M_live_4 rfl (lv_at hl 1 rfl) ?_
  refine bq_iald hx hb hK hP 6 5 rfl rfl ht (by decide) dd_M_live_5 ?_
  refine lv_iconst (v := nI 3) hx hb dd_M_live_6 (by decide) ?_
  refine bq_eq (tgt := 20) hx hb (Nat.lt_trans (hB_8 t) (by decide)) (by decide) dd_M_live_7 rfl (fun h7 => ?_) (fun h7 => ?_)
  · refine lv_iconst (v := bd_b true) hx hb dd_M_live_20 (by decide) ?_
    refine lv_goto (tgt := 25) hx hb dd_M_live_21 rfl ?_
    exact W.zret (ty := .boolean) hx hb hr (bd_b_nar _) (fun tt htt hWW => ⟨_, rfl, (by rw [sp_v, decide_eq_true h7]; rfl), htt⟩) (fun _ h => by cases h) dd_M_live_25
  · refine lv_aload_n hx hb dd_M_live_10 rfl (lv_at hl 0 rfl) ?_
    refine va_get (D := D) (ci := 4) (v := .ref (ra 8)) (C := rn_M) (T := ft_M) (N := 19) hx hb hts tw_fs_M hown hK hP 0 rfl rfl 8 (by decide) (hts _ tw_fl_M_29) (fun _ h9 => h9) rfl dd_M_live_11 ?_
    refine lv_iload_n hx hb dd_M_live_14 rfl (lv_at hl 1 rfl) ?_
    refine bq_iald hx hb hK hP 6 5 rfl rfl ht (by decide) dd_M_live_15 ?_
    refine lv_iconst (v := nI 4) hx hb dd_M_live_16 (by decide) ?_
    refine bq_ne (tgt := 24) hx hb (Nat.lt_trans (hB_8 t) (by decide)) (by decide) dd_M_live_17 rfl (fun h17 => ?_) (fun h17 => ?_)
    · refine lv_iconst (v := bd_b false) hx hb dd_M_live_24 (by decide) ?_
      exact W.zret (ty := .boolean) hx hb hr (bd_b_nar _) (fun tt htt hWW => ⟨_, rfl, (by rw [sp_v, decide_eq_false h7, decide_eq_false h17]; rfl), htt⟩) (fun _ h => by cases h) dd_M_live_25
    · refine lv_iconst (v := bd_b true) hx hb dd_M_live_20 (by decide) ?_
      refine lv_goto (tgt := 25) hx hb dd_M_live_21 rfl ?_
      exact W.zret (ty := .boolean) hx hb hr (bd_b_nar _) (fun tt htt hWW => ⟨_, rfl, (by rw [sp_v, decide_eq_false h7, decide_eq_true h17]; rfl), htt⟩) (fun _ h => by cases h) dd_M_live_25
end
section
/-! Part 11: further branches; lists of locals. -/
section BR
variable {p : Program} {l : Launch} {e : Env} {R : Room} {s : State} {m : MethodId} {args : Array Value} {below : List Frame} {meth : Method} {c : Code} {H : Heap} {locs : List Loc} {cells slots : Nat} {Q : State → Prop}
variable {cc : ByteArray} {pc : Nat} {ls : Array Slot} {rest : List Value}
theorem bq_oeq (hx : p.tables.exec = Jvm.exec) (hb : c.code = cc) {o : Option Nat} {g : Nat} (ho : ∀ k, o = some k → k < 2 ^ 31) (hg : g < 2 ^ 31) {off : Int} {tgt : Nat} (hdg : decode cc pc = .ok (.if_icmp .eq off, 3)) (ht : (pc : Int) + off = (tgt : Int)) (kt : o = some g → W p l e R s m args below meth c H locs cells slots Q (F0 m tgt ls rest)) (kf : o ≠ some g → W p l e R s m args below meth c H locs cells slots Q (F0 m (pc + 3) ls rest)) : W p l e R s m args below meth c H locs cells slots Q (F0 m pc ls (.int (nI g) :: .int (bd_o o) :: rest)) := by
  exact lv_icmp_eq hx hb hdg ht (fun h => kt ((bd_o_eq ho hg).mp h)) (fun h => kf (fun q => h ((bd_o_eq ho hg).mpr q)))
theorem bq_lgt (hx : p.tables.exec = Jvm.exec) (hb : c.code = cc) {x y : Int64} {off : Int} {tgt : Nat} (hdg : decode cc pc = .ok (.ifCond .gt off, 3)) (ht : (pc : Int) + off = (tgt : Int)) (kt : y < x → W p l e R s m args below meth c H locs cells slots Q (F0 m tgt ls rest)) (kf : x ≤ y → W p l e R s m args below meth c H locs cells slots Q (F0 m (pc + 3) ls rest)) : W p l e R s m args below meth c H locs cells slots Q (F0 m pc ls (.int (lg_cmp x y) :: rest)) := by
  exact lv_if_gt hx hb hdg ht (fun h => kt ((lg_cmp_gt x y).mp h)) (fun h => kf (Int64.not_lt.mp (fun q => h ((lg_cmp_gt x y).mpr q))))
theorem bq_lge (hx : p.tables.exec = Jvm.exec) (hb : c.code = cc) {x y : Int64} {off : Int} {tgt : Nat} (hdg : decode cc pc = .ok (.ifCond .ge off, 3)) (ht : (pc : Int) + off = (tgt : Int)) (kt : y ≤ x → W p l e R s m args below meth c H locs cells slots Q (F0 m tgt ls rest)) (kf : x < y → W p l e R s m args below meth c H locs cells slots Q (F0 m (pc + 3) ls rest)) : W p l e R s m args below meth c H locs cells slots Q (F0 m pc ls (.int (lg_cmp x y) :: rest)) := by
  exact lv_if_ge hx hb hdg ht (fun h => kt ((lg_cmp_ge x y).mp h)) (fun h => kf (Int64.not_le.mp (fun q => h ((lg_cmp_ge x y).mpr q))))
theorem bq_lle (hx : p.tables.exec = Jvm.exec) (hb : c.code = cc) {x y : Int64} {off : Int} {tgt : Nat} (hdg : decode cc pc = .ok (.ifCond .le off, 3)) (ht : (pc : Int) + off = (tgt : Int)) (kt : x ≤ y → W p l e R s m args below meth c H locs cells slots Q (F0 m tgt ls rest)) (kf : y < x → W p l e R s m args below meth c H locs cells slots Q (F0 m (pc + 3) ls rest)) : W p l e R s m args below meth c H locs cells slots Q (F0 m pc ls (.int (lg_cmp x y) :: rest)) := by
  exact lv_if_le hx hb hdg ht (fun h => kt ((lg_cmp_le x y).mp h)) (fun h => kf (Int64.not_le.mp (fun q => h ((lg_cmp_le x y).mpr q))))
theorem bq_llt (hx : p.tables.exec = Jvm.exec) (hb : c.code = cc) {x y : Int64} {off : Int} {tgt : Nat} (hdg : decode cc pc = .ok (.ifCond .lt off, 3)) (ht : (pc : Int) + off = (tgt : Int)) (kt : x < y → W p l e R s m args below meth c H locs cells slots Q (F0 m tgt ls rest)) (kf : y ≤ x → W p l e R s m args below meth c H locs cells slots Q (F0 m (pc + 3) ls rest)) : W p l e R s m args below meth c H locs cells slots Q (F0 m pc ls (.int (lg_cmp x y) :: rest)) := by
  exact lv_if_lt hx hb hdg ht (fun h => kt ((lg_cmp_lt x y).mp h)) (fun h => kf (Int64.not_lt.mp (fun q => h ((lg_cmp_lt x y).mpr q))))
end BR
theorem bd_ne {o : Option Nat} (h : o ≠ none) : ∃ b, o = some b := Option.ne_none_iff_exists'.mp h
theorem sp_r_lt (N : sp_N) (a : Nat) : sp_r N a < 3 := by
  unfold sp_r
  split
  · omega
  · split <;> omega
theorem sp_h_lt {N : sp_N} {O : sp_O} {B : sp_B} {n b : Nat} (h : sp_h N O B n = some b) : b < n := (sp_h_some h).1
theorem sp_d_lt {N : sp_N} {Z : sp_Z} {b : Nat} : ∀ {n : Nat}, sp_d N Z n = some b → b < n
  | 0, h => by cases h
  | n + 1, h => by
    unfold sp_d at h
    split at h
    · cases h; omega
    · have := sp_d_lt h; omega
/-- the rank that goes with the best so far -/
def sp_rk (N : sp_N) (o : Option Nat) : Int32 := match o with
  | none => -1
  | some b => nI (sp_r N (N 7 b))
theorem bd_in_4 {q : Int32} (h1 : ¬ q < 0) (h2 : q ≤ nI 3) : bd_in q 4 = true := by
  have h3 : ¬ q.toInt < 0 := fun z => h1 (Int32.lt_iff_toInt_lt.mpr (by simpa using z))
  have h4 := Int32.le_iff_toInt_le.mp h2
  rw [nI_toInt (by decide)] at h4
  simp only [bd_in, decide_eq_true_eq]
  omega
theorem bd_in_5 {q : Int32} (h2 : ¬ q ≤ nI 3) : bd_in q 4 = false := by
  have h4 : ¬ q.toInt ≤ 3 := fun z => h2 (Int32.le_iff_toInt_le.mpr (by rw [nI_toInt (by decide)]; exact z))
  simp only [bd_in, decide_eq_false_iff_not]
  omega
/-- what the public readers answer -/
def am_queued (N : sp_N) (q : Int32) : Int32 := if bd_in q (N 1 0) = true then nI (sp_q N q.toNatClampNeg) else -1
def am_through (N : sp_N) (q : Int32) : Int32 := if bd_in q (N 1 0) = true then nI (sp_p N q.toNatClampNeg) else -1
def am_peak (N : sp_N) (q : Int32) : Int32 := if bd_in q (N 1 0) = true then nI (N 5 q.toNatClampNeg) else -1
def am_count (N : sp_N) (O : sp_O) (g : Int32) : Int32 := if bd_in g 4 = true then nI (sp_g N O g.toNatClampNeg) else -2
def am_state (N : sp_N) (B : sp_B) (t : Int32) : Int32 := if bd_in t (N 6 0) = true then nI (N 8 t.toNatClampNeg + (if B 15 t.toNatClampNeg = true then 8 else 0)) else -3
def sp_x (N : sp_N) (B : sp_B) (c q : Nat) (bar : Bool) : Bool := sp_a (fun x => decide (3 ≤ x) && sp_l N q x && sp_l N (N 7 c) x && (decide (N 3 x = 1) || (B 14 c && decide (N 7 c = x)) || (bar && decide (x = q)))) (N 1 0)
end
section
/-! Part 12: the reference: passing, workersInUse, oldest, barrierRuns, lets, mayStart, countOf. By wip/gen/gen_ref2.py. -/
set_option maxHeartbeats 4000000 in
set_option maxRecDepth 100000 in
theorem rc_passing (l : Launch) (D : va_G) (ra : Nat → Nat) (ca : Nat → ClassId) (N : sp_N) (O : sp_O) (Z : sp_Z) (B : sp_B) (hB : sp_Bd N O) (x : Nat) (hx2 : x < 2 ^ 31) : Met l my_M_passing (Cond.code my_M_passing cd_M_passing 4 (some .int) :: bg_tbl) ({ frames := 1, cells := 0, slots := 0, locals := 24 }) (va_Pc [.ref (ra 0), .int (nI x)] (rf_U D ra ca N O Z B)) (vp_Si (fun r => r = nI (sp_p N x))) 0 0 (fun _ => False) := by
  refine Met.ofW (cc := cd_M_passing) (maxL := 4) (ret := (some .int)) (by decide) rfl ?_
  intro p e s m args below meth c s₁ BB hml hv
  obtain ⟨rfl, hP, hK⟩ := hv
  have hx := BB.exec
  have hb := BB.bytes
  have hr := BB.returns
  have hts : ∀ w ∈ bg_tbl, w.before ([.ref (ra 0), .int (nI x)] : List Value).toArray s = true := fun w h => atoms_spec (ws := (Cond.code my_M_passing cd_M_passing 4 (some .int) :: bg_tbl)) BB.pre w (List.mem_cons_of_mem _ h)
  have hown : s.vm.findClass rn_M = some m.cls := findClass_of_methodNamed BB.named
  have hlocks := BB.notSynchronized
  obtain ⟨hB_0, hB_1, hB_2, hB_3, hB_4, hB_5, hB_6, hB_7, hB_8, hB_9, hB_10, hB_11, hB_12, hB_17⟩ := id hB
  have hl := lv_entry ([.ref (ra 0), .int (nI x)]) (n := 4) (Nat.le_of_ble_eq_true rfl)
  rw [lg_entry_eq]
  generalize (lg_sl ([.ref (ra 0), .int (nI x)]) ++ List.replicate (4 - (lg_sl ([.ref (ra 0), .int (nI x)])).length) Slot.unset).toArray = ls at hl ⊢
  have hl : lv_has ls 4 [(0, .ref (ra 0)), (1, .int (nI x))] := hl
  have lp : ∀ (n : Nat) (t : Nat) (ls : Array Slot), (n + t = N 6 0) →  lv_has ls 4 [(0, .ref (ra 0)), (1, .int (nI x)), (2, .int (nI (sp_c (fun t => sp_v N t && sp_l N (N 7 t) x) t))), (3, .int (nI t))] → W p l e (headSpec (Cond.code my_M_passing cd_M_passing 4 (some .int) :: bg_tbl) ({ frames := 1, cells := 0, slots := 0, locals := 24 })).room s m ([.ref (ra 0), .int (nI x)] : List Value).toArray below meth c s.heap [] 0 0 (MQ below (vp_Si (fun r => r = nI (sp_p N x))) ([.ref (ra 0), .int (nI x)] : List Value).toArray s 0 0 (fun _ => False)) (F0 m 4 ls []) := by
    intro n
    induction n with
    | zero =>
      intro t ls hk hl
      refine lv_iload_n hx hb dd_M_passing_4 rfl (lv_at hl 3 rfl) ?_
      refine lv_aload_n hx hb dd_M_passing_5 rfl (lv_at hl 0 rfl) ?_
      refine va_get (D := D) (ci := 4) (v := .int (nI (N 6 0))) (C := rn_M) (T := ft_M) (N := 19) hx hb hts tw_fs_M hown hK hP 0 rfl rfl 6 (by decide) (hts _ tw_fl_M_61) (fun _ h9 => h9) rfl dd_M_passing_6 ?_
      refine bq_ge (tgt := 44) hx hb (by omega) (Nat.lt_of_le_of_lt hB_6 (by decide)) dd_M_passing_9 rfl (fun h9 => ?_) (fun h9 => ?_)
      · refine lv_iload_n hx hb dd_M_passing_44 rfl (lv_at hl 2 rfl) ?_
        exact W.iret hx hb hr (fun tt htt hWW => ⟨_, rfl, (by rw [show t = N 6 0 by omega]; rfl), htt⟩) (fun _ h => by cases h) dd_M_passing_45
      · exact absurd h9 (by omega)
    | succ n ih =>
      intro t ls hk hl
      refine lv_iload_n hx hb dd_M_passing_4 rfl (lv_at hl 3 rfl) ?_
      refine lv_aload_n hx hb dd_M_passing_5 rfl (lv_at hl 0 rfl) ?_
      refine va_get (D := D) (ci := 4) (v := .int (nI (N 6 0))) (C := rn_M) (T := ft_M) (N := 19) hx hb hts tw_fs_M hown hK hP 0 rfl rfl 6 (by decide) (hts _ tw_fl_M_61) (fun _ h9 => h9) rfl dd_M_passing_6 ?_
      refine bq_ge (tgt := 44) hx hb (by omega) (Nat.lt_of_le_of_lt hB_6 (by decide)) dd_M_passing_9 rfl (fun h9 => ?_) (fun h9 => ?_)
      · exact absurd h9 (by omega)
      · refine lv_aload_n hx hb dd_M_passing_12 rfl (lv_at hl 0 rfl) ?_
        refine lv_iload_n hx hb dd_M_passing_13 rfl (lv_at hl 3 rfl) ?_
        refine rf_calli (As := [.int (nI t)]) (rest := []) (v := bd_b (sp_v N t)) ⟨hx, hb, hml, hown, hts⟩ (rc_live l D ra ca N O Z B hB t (by omega)) (bg_cwV 1 hts tw_ml_M_68 tw_im_M_live tw_se_M_live tw_in_M tw_co_M_live rfl rfl th_M_live ⟨Nat.le_of_ble_eq_true rfl, Nat.le_of_ble_eq_true rfl⟩) hK hP rfl hl.1 rfl (by decide) dd_M_passing_14 ⟨Nat.zero_le _, Nat.zero_le _⟩ ?_
        refine bq_zeq (tgt := 38) hx hb dd_M_passing_17 rfl (fun h17 => ?_) (fun h17 => ?_)
        · refine lv_iinc (k := 3) (v := nI (t + 1)) hx hb dd_M_passing_38 hl rfl (nI_1 _) (by decide) rfl (fun ls hl => ?_)
          have hl : lv_has ls 4 [(3, .int (nI (t + 1))), (0, .ref (ra 0)), (1, .int (nI x)), (2, .int (nI (sp_c (fun t => sp_v N t && sp_l N (N 7 t) x) t)))] := hl
          refine lv_goto (tgt := 4) hx hb dd_M_passing_41 rfl ?_
          have e9 : sp_c (fun t => sp_v N t && sp_l N (N 7 t) x) (t + 1) = sp_c (fun t => sp_v N t && sp_l N (N 7 t) x) t := by simp [sp_c, h9, Nat.not_le.mpr h9, h17]
          exact ih (t + 1) ls (by omega) (by rw [e9]; exact lv_sub hl [1, 2, 3, 0] rfl)
        · refine lv_aload_n hx hb dd_M_passing_20 rfl (lv_at hl 0 rfl) ?_
          refine lv_aload_n hx hb dd_M_passing_21 rfl (lv_at hl 0 rfl) ?_
          refine va_get (D := D) (ci := 4) (v := .ref (ra 7)) (C := rn_M) (T := ft_M) (N := 19) hx hb hts tw_fs_M hown hK hP 0 rfl rfl 7 (by decide) (hts _ tw_fl_M_26) (fun _ h9 => h9) rfl dd_M_passing_22 ?_
          refine lv_iload_n hx hb dd_M_passing_25 rfl (lv_at hl 3 rfl) ?_
          refine bq_iald hx hb hK hP 5 4 rfl rfl (by omega) (by decide) dd_M_passing_26 ?_
          refine lv_iload_n hx hb dd_M_passing_27 rfl (lv_at hl 1 rfl) ?_
          refine rf_calli (As := [.int (nI (N 7 t)), .int (nI x)]) (rest := []) (v := bd_b (sp_l N (N 7 t) x)) ⟨hx, hb, hml, hown, hts⟩ (rc_leads l D ra ca N O Z B hB (N 7 t) x (hB_7 t) (by omega)) (bg_cwV 2 hts tw_ml_M_64 tw_im_M_leads tw_se_M_leads tw_in_M tw_co_M_leads rfl rfl th_M_leads ⟨Nat.le_of_ble_eq_true rfl, Nat.le_of_ble_eq_true rfl⟩) hK hP rfl hl.1 rfl (by decide) dd_M_passing_28 ⟨Nat.zero_le _, Nat.zero_le _⟩ ?_
          refine bq_zeq (tgt := 38) hx hb dd_M_passing_31 rfl (fun h31 => ?_) (fun h31 => ?_)
          · refine lv_iinc (k := 3) (v := nI (t + 1)) hx hb dd_M_passing_38 hl rfl (nI_1 _) (by decide) rfl (fun ls hl => ?_)
            have hl : lv_has ls 4 [(3, .int (nI (t + 1))), (0, .ref (ra 0)), (1, .int (nI x)), (2, .int (nI (sp_c (fun t => sp_v N t && sp_l N (N 7 t) x) t)))] := hl
            refine lv_goto (tgt := 4) hx hb dd_M_passing_41 rfl ?_
            have e9 : sp_c (fun t => sp_v N t && sp_l N (N 7 t) x) (t + 1) = sp_c (fun t => sp_v N t && sp_l N (N 7 t) x) t := by simp [sp_c, h9, Nat.not_le.mpr h9, h17, h31]
            exact ih (t + 1) ls (by omega) (by rw [e9]; exact lv_sub hl [1, 2, 3, 0] rfl)
          · refine lv_iload_n hx hb dd_M_passing_34 rfl (lv_at hl 2 rfl) ?_
            refine lv_iconst (v := nI 1) hx hb dd_M_passing_35 (by decide) ?_
            refine lv_iadd hx hb dd_M_passing_36 ?_
            rw [nI_add]
            refine lv_istore_n hx hb dd_M_passing_37 rfl hl (by decide) rfl (fun ls hl => ?_)
            have hl : lv_has ls 4 [(2, .int (nI ((sp_c (fun t => sp_v N t && sp_l N (N 7 t) x) t) + 1))), (0, .ref (ra 0)), (1, .int (nI x)), (3, .int (nI t))] := hl
            refine lv_iinc (k := 3) (v := nI (t + 1)) hx hb dd_M_passing_38 hl rfl (nI_1 _) (by decide) rfl (fun ls hl => ?_)
            have hl : lv_has ls 4 [(3, .int (nI (t + 1))), (2, .int (nI ((sp_c (fun t => sp_v N t && sp_l N (N 7 t) x) t) + 1))), (0, .ref (ra 0)), (1, .int (nI x))] := hl
            refine lv_goto (tgt := 4) hx hb dd_M_passing_41 rfl ?_
            have e9 : sp_c (fun t => sp_v N t && sp_l N (N 7 t) x) (t + 1) = (sp_c (fun t => sp_v N t && sp_l N (N 7 t) x) t) + 1 := by simp [sp_c, h9, Nat.not_le.mpr h9, h17, h31]
            exact ih (t + 1) ls (by omega) (by rw [e9]; exact lv_sub hl [2, 3, 1, 0] rfl)
  refine lv_iconst (v := nI 0) hx hb dd_M_passing_0 (by decide) ?_
  refine lv_istore_n hx hb dd_M_passing_1 rfl hl (by decide) rfl (fun ls hl => ?_)
  have hl : lv_has ls 4 [(2, .int (nI 0)), (0, .ref (ra 0)), (1, .int (nI x))] := hl
  refine lv_iconst (v := nI 0) hx hb dd_M_passing_2 (by decide) ?_
  refine lv_istore_n hx hb dd_M_passing_3 rfl hl (by decide) rfl (fun ls hl => ?_)
  have hl : lv_has ls 4 [(3, .int (nI 0)), (2, .int (nI 0)), (0, .ref (ra 0)), (1, .int (nI x))] := hl
  exact lp (N 6 0) 0 ls (by omega) (lv_sub hl [2, 3, 1, 0] rfl)

set_option maxHeartbeats 4000000 in
set_option maxRecDepth 100000 in
theorem rc_workersInUse (l : Launch) (D : va_G) (ra : Nat → Nat) (ca : Nat → ClassId) (N : sp_N) (O : sp_O) (Z : sp_Z) (B : sp_B) (hB : sp_Bd N O)  : Met l my_M_workersInUse (Cond.code my_M_workersInUse cd_M_workersInUse 3 (some .int) :: bg_tbl) ({ frames := 1, cells := 0, slots := 0, locals := 21 }) (va_Pc [.ref (ra 0)] (rf_U D ra ca N O Z B)) (vp_Si (fun r => r = nI (sp_w N O))) 0 0 (fun _ => False) := by
  refine Met.ofW (cc := cd_M_workersInUse) (maxL := 3) (ret := (some .int)) (by decide) rfl ?_
  intro p e s m args below meth c s₁ BB hml hv
  obtain ⟨rfl, hP, hK⟩ := hv
  have hx := BB.exec
  have hb := BB.bytes
  have hr := BB.returns
  have hts : ∀ w ∈ bg_tbl, w.before ([.ref (ra 0)] : List Value).toArray s = true := fun w h => atoms_spec (ws := (Cond.code my_M_workersInUse cd_M_workersInUse 3 (some .int) :: bg_tbl)) BB.pre w (List.mem_cons_of_mem _ h)
  have hown : s.vm.findClass rn_M = some m.cls := findClass_of_methodNamed BB.named
  have hlocks := BB.notSynchronized
  obtain ⟨hB_0, hB_1, hB_2, hB_3, hB_4, hB_5, hB_6, hB_7, hB_8, hB_9, hB_10, hB_11, hB_12, hB_17⟩ := id hB
  have hl := lv_entry ([.ref (ra 0)]) (n := 3) (Nat.le_of_ble_eq_true rfl)
  rw [lg_entry_eq]
  generalize (lg_sl ([.ref (ra 0)]) ++ List.replicate (3 - (lg_sl ([.ref (ra 0)])).length) Slot.unset).toArray = ls at hl ⊢
  have hl : lv_has ls 3 [(0, .ref (ra 0))] := hl
  have lp : ∀ (n : Nat) (t : Nat) (ls : Array Slot), (n + t = N 6 0) →  lv_has ls 3 [(0, .ref (ra 0)), (1, .int (nI (sp_c (fun t => sp_v N t && decide (O 9 t = none)) t))), (2, .int (nI t))] → W p l e (headSpec (Cond.code my_M_workersInUse cd_M_workersInUse 3 (some .int) :: bg_tbl) ({ frames := 1, cells := 0, slots := 0, locals := 21 })).room s m ([.ref (ra 0)] : List Value).toArray below meth c s.heap [] 0 0 (MQ below (vp_Si (fun r => r = nI (sp_w N O))) ([.ref (ra 0)] : List Value).toArray s 0 0 (fun _ => False)) (F0 m 4 ls []) := by
    intro n
    induction n with
    | zero =>
      intro t ls hk hl
      refine lv_iload_n hx hb dd_M_workersInUse_4 rfl (lv_at hl 2 rfl) ?_
      refine lv_aload_n hx hb dd_M_workersInUse_5 rfl (lv_at hl 0 rfl) ?_
      refine va_get (D := D) (ci := 4) (v := .int (nI (N 6 0))) (C := rn_M) (T := ft_M) (N := 19) hx hb hts tw_fs_M hown hK hP 0 rfl rfl 6 (by decide) (hts _ tw_fl_M_61) (fun _ h9 => h9) rfl dd_M_workersInUse_6 ?_
      refine bq_ge (tgt := 39) hx hb (by omega) (Nat.lt_of_le_of_lt hB_6 (by decide)) dd_M_workersInUse_9 rfl (fun h9 => ?_) (fun h9 => ?_)
      · refine lv_iload_n hx hb dd_M_workersInUse_39 rfl (lv_at hl 1 rfl) ?_
        exact W.iret hx hb hr (fun tt htt hWW => ⟨_, rfl, (by rw [show t = N 6 0 by omega]; rfl), htt⟩) (fun _ h => by cases h) dd_M_workersInUse_40
      · exact absurd h9 (by omega)
    | succ n ih =>
      intro t ls hk hl
      refine lv_iload_n hx hb dd_M_workersInUse_4 rfl (lv_at hl 2 rfl) ?_
      refine lv_aload_n hx hb dd_M_workersInUse_5 rfl (lv_at hl 0 rfl) ?_
      refine va_get (D := D) (ci := 4) (v := .int (nI (N 6 0))) (C := rn_M) (T := ft_M) (N := 19) hx hb hts tw_fs_M hown hK hP 0 rfl rfl 6 (by decide) (hts _ tw_fl_M_61) (fun _ h9 => h9) rfl dd_M_workersInUse_6 ?_
      refine bq_ge (tgt := 39) hx hb (by omega) (Nat.lt_of_le_of_lt hB_6 (by decide)) dd_M_workersInUse_9 rfl (fun h9 => ?_) (fun h9 => ?_)
      · exact absurd h9 (by omega)
      · refine lv_aload_n hx hb dd_M_workersInUse_12 rfl (lv_at hl 0 rfl) ?_
        refine lv_iload_n hx hb dd_M_workersInUse_13 rfl (lv_at hl 2 rfl) ?_
        refine rf_calli (As := [.int (nI t)]) (rest := []) (v := bd_b (sp_v N t)) ⟨hx, hb, hml, hown, hts⟩ (rc_live l D ra ca N O Z B hB t (by omega)) (bg_cwV 1 hts tw_ml_M_68 tw_im_M_live tw_se_M_live tw_in_M tw_co_M_live rfl rfl th_M_live ⟨Nat.le_of_ble_eq_true rfl, Nat.le_of_ble_eq_true rfl⟩) hK hP rfl hl.1 rfl (by decide) dd_M_workersInUse_14 ⟨Nat.zero_le _, Nat.zero_le _⟩ ?_
        refine bq_zeq (tgt := 33) hx hb dd_M_workersInUse_17 rfl (fun h17 => ?_) (fun h17 => ?_)
        · refine lv_iinc (k := 2) (v := nI (t + 1)) hx hb dd_M_workersInUse_33 hl rfl (nI_1 _) (by decide) rfl (fun ls hl => ?_)
          have hl : lv_has ls 3 [(2, .int (nI (t + 1))), (0, .ref (ra 0)), (1, .int (nI (sp_c (fun t => sp_v N t && decide (O 9 t = none)) t)))] := hl
          refine lv_goto (tgt := 4) hx hb dd_M_workersInUse_36 rfl ?_
          have e9 : sp_c (fun t => sp_v N t && decide (O 9 t = none)) (t + 1) = sp_c (fun t => sp_v N t && decide (O 9 t = none)) t := by simp [sp_c, h9, Nat.not_le.mpr h9, h17]
          exact ih (t + 1) ls (by omega) (by rw [e9]; exact lv_sub hl [1, 2, 0] rfl)
        · refine lv_aload_n hx hb dd_M_workersInUse_20 rfl (lv_at hl 0 rfl) ?_
          refine va_get (D := D) (ci := 4) (v := .ref (ra 9)) (C := rn_M) (T := ft_M) (N := 19) hx hb hts tw_fs_M hown hK hP 0 rfl rfl 9 (by decide) (hts _ tw_fl_M_32) (fun _ h9 => h9) rfl dd_M_workersInUse_21 ?_
          refine lv_iload_n hx hb dd_M_workersInUse_24 rfl (lv_at hl 2 rfl) ?_
          refine bq_iald hx hb hK hP 7 6 rfl rfl (by omega) (by decide) dd_M_workersInUse_25 ?_
          refine bq_oge (tgt := 33) hx hb (fun k hk => Nat.lt_trans (hB_9 _ k hk) (by decide)) dd_M_workersInUse_26 rfl (fun h26 => ?_) (fun h26 => ?_)
          · refine lv_iinc (k := 2) (v := nI (t + 1)) hx hb dd_M_workersInUse_33 hl rfl (nI_1 _) (by decide) rfl (fun ls hl => ?_)
            have hl : lv_has ls 3 [(2, .int (nI (t + 1))), (0, .ref (ra 0)), (1, .int (nI (sp_c (fun t => sp_v N t && decide (O 9 t = none)) t)))] := hl
            refine lv_goto (tgt := 4) hx hb dd_M_workersInUse_36 rfl ?_
            have e9 : sp_c (fun t => sp_v N t && decide (O 9 t = none)) (t + 1) = sp_c (fun t => sp_v N t && decide (O 9 t = none)) t := by simp [sp_c, h9, Nat.not_le.mpr h9, h17, h26]
            exact ih (t + 1) ls (by omega) (by rw [e9]; exact lv_sub hl [1, 2, 0] rfl)
          · refine lv_iload_n hx hb dd_M_workersInUse_29 rfl (lv_at hl 1 rfl) ?_
            refine lv_iconst (v := nI 1) hx hb dd_M_workersInUse_30 (by decide) ?_
            refine lv_iadd hx hb dd_M_workersInUse_31 ?_
            rw [nI_add]
            refine lv_istore_n hx hb dd_M_workersInUse_32 rfl hl (by decide) rfl (fun ls hl => ?_)
            have hl : lv_has ls 3 [(1, .int (nI ((sp_c (fun t => sp_v N t && decide (O 9 t = none)) t) + 1))), (0, .ref (ra 0)), (2, .int (nI t))] := hl
            refine lv_iinc (k := 2) (v := nI (t + 1)) hx hb dd_M_workersInUse_33 hl rfl (nI_1 _) (by decide) rfl (fun ls hl => ?_)
            have hl : lv_has ls 3 [(2, .int (nI (t + 1))), (1, .int (nI ((sp_c (fun t => sp_v N t && decide (O 9 t = none)) t) + 1))), (0, .ref (ra 0))] := hl
            refine lv_goto (tgt := 4) hx hb dd_M_workersInUse_36 rfl ?_
            have e9 : sp_c (fun t => sp_v N t && decide (O 9 t = none)) (t + 1) = (sp_c (fun t => sp_v N t && decide (O 9 t = none)) t) + 1 := by simp [sp_c, h9, Nat.not_le.mpr h9, h17, h26]
            exact ih (t + 1) ls (by omega) (by rw [e9]; exact lv_sub hl [2, 1, 0] rfl)
  refine lv_iconst (v := nI 0) hx hb dd_M_workersInUse_0 (by decide) ?_
  refine lv_istore_n hx hb dd_M_workersInUse_1 rfl hl (by decide) rfl (fun ls hl => ?_)
  have hl : lv_has ls 3 [(1, .int (nI 0)), (0, .ref (ra 0))] := hl
  refine lv_iconst (v := nI 0) hx hb dd_M_workersInUse_2 (by decide) ?_
  refine lv_istore_n hx hb dd_M_workersInUse_3 rfl hl (by decide) rfl (fun ls hl => ?_)
  have hl : lv_has ls 3 [(2, .int (nI 0)), (1, .int (nI 0)), (0, .ref (ra 0))] := hl
  exact lp (N 6 0) 0 ls (by omega) (lv_sub hl [2, 1, 0] rfl)

set_option maxHeartbeats 4000000 in
set_option maxRecDepth 100000 in
theorem rc_oldest (l : Launch) (D : va_G) (ra : Nat → Nat) (ca : Nat → ClassId) (N : sp_N) (O : sp_O) (Z : sp_Z) (B : sp_B) (hB : sp_Bd N O) (x : Nat) (hx2 : x < 2 ^ 31) : Met l my_M_oldest (Cond.code my_M_oldest cd_M_oldest 4 (some .int) :: bg_tbl) ({ frames := 0, cells := 0, slots := 0, locals := 0 }) (va_Pc [.ref (ra 0), .int (nI x)] (rf_U D ra ca N O Z B)) (vp_Si (fun r => r = bd_o (sp_o N x (N 6 0)))) 0 0 (fun _ => False) := by
  refine Met.ofW (cc := cd_M_oldest) (maxL := 4) (ret := (some .int)) (by decide) rfl ?_
  intro p e s m args below meth c s₁ BB hml hv
  obtain ⟨rfl, hP, hK⟩ := hv
  have hx := BB.exec
  have hb := BB.bytes
  have hr := BB.returns
  have hts : ∀ w ∈ bg_tbl, w.before ([.ref (ra 0), .int (nI x)] : List Value).toArray s = true := fun w h => atoms_spec (ws := (Cond.code my_M_oldest cd_M_oldest 4 (some .int) :: bg_tbl)) BB.pre w (List.mem_cons_of_mem _ h)
  have hown : s.vm.findClass rn_M = some m.cls := findClass_of_methodNamed BB.named
  have hlocks := BB.notSynchronized
  obtain ⟨hB_0, hB_1, hB_2, hB_3, hB_4, hB_5, hB_6, hB_7, hB_8, hB_9, hB_10, hB_11, hB_12, hB_17⟩ := id hB
  have hl := lv_entry ([.ref (ra 0), .int (nI x)]) (n := 4) (Nat.le_of_ble_eq_true rfl)
  rw [lg_entry_eq]
  generalize (lg_sl ([.ref (ra 0), .int (nI x)]) ++ List.replicate (4 - (lg_sl ([.ref (ra 0), .int (nI x)])).length) Slot.unset).toArray = ls at hl ⊢
  have hl : lv_has ls 4 [(0, .ref (ra 0)), (1, .int (nI x))] := hl
  have lp : ∀ (n : Nat) (t : Nat) (ls : Array Slot), (n + t = N 6 0) →  lv_has ls 4 [(0, .ref (ra 0)), (1, .int (nI x)), (2, .int (bd_o (sp_o N x t))), (3, .int (nI t))] → W p l e (headSpec (Cond.code my_M_oldest cd_M_oldest 4 (some .int) :: bg_tbl) ({ frames := 0, cells := 0, slots := 0, locals := 0 })).room s m ([.ref (ra 0), .int (nI x)] : List Value).toArray below meth c s.heap [] 0 0 (MQ below (vp_Si (fun r => r = bd_o (sp_o N x (N 6 0)))) ([.ref (ra 0), .int (nI x)] : List Value).toArray s 0 0 (fun _ => False)) (F0 m 4 ls []) := by
    intro n
    induction n with
    | zero =>
      intro t ls hk hl
      refine lv_iload_n hx hb dd_M_oldest_4 rfl (lv_at hl 3 rfl) ?_
      refine lv_aload_n hx hb dd_M_oldest_5 rfl (lv_at hl 0 rfl) ?_
      refine va_get (D := D) (ci := 4) (v := .int (nI (N 6 0))) (C := rn_M) (T := ft_M) (N := 19) hx hb hts tw_fs_M hown hK hP 0 rfl rfl 6 (by decide) (hts _ tw_fl_M_61) (fun _ h9 => h9) rfl dd_M_oldest_6 ?_
      refine bq_ge (tgt := 59) hx hb (by omega) (Nat.lt_of_le_of_lt hB_6 (by decide)) dd_M_oldest_9 rfl (fun h9 => ?_) (fun h9 => ?_)
      · refine lv_iload_n hx hb dd_M_oldest_59 rfl (lv_at hl 2 rfl) ?_
        exact W.iret hx hb hr (fun tt htt hWW => ⟨_, rfl, (by rw [show t = N 6 0 by omega]), htt⟩) (fun _ h => by cases h) dd_M_oldest_60
      · exact absurd h9 (by omega)
    | succ n ih =>
      intro t ls hk hl
      refine lv_iload_n hx hb dd_M_oldest_4 rfl (lv_at hl 3 rfl) ?_
      refine lv_aload_n hx hb dd_M_oldest_5 rfl (lv_at hl 0 rfl) ?_
      refine va_get (D := D) (ci := 4) (v := .int (nI (N 6 0))) (C := rn_M) (T := ft_M) (N := 19) hx hb hts tw_fs_M hown hK hP 0 rfl rfl 6 (by decide) (hts _ tw_fl_M_61) (fun _ h9 => h9) rfl dd_M_oldest_6 ?_
      refine bq_ge (tgt := 59) hx hb (by omega) (Nat.lt_of_le_of_lt hB_6 (by decide)) dd_M_oldest_9 rfl (fun h9 => ?_) (fun h9 => ?_)
      · exact absurd h9 (by omega)
      · refine lv_aload_n hx hb dd_M_oldest_12 rfl (lv_at hl 0 rfl) ?_
        refine va_get (D := D) (ci := 4) (v := .ref (ra 8)) (C := rn_M) (T := ft_M) (N := 19) hx hb hts tw_fs_M hown hK hP 0 rfl rfl 8 (by decide) (hts _ tw_fl_M_29) (fun _ h9 => h9) rfl dd_M_oldest_13 ?_
        refine lv_iload_n hx hb dd_M_oldest_16 rfl (lv_at hl 3 rfl) ?_
        refine bq_iald hx hb hK hP 6 5 rfl rfl (by omega) (by decide) dd_M_oldest_17 ?_
        refine lv_iconst (v := nI 2) hx hb dd_M_oldest_18 (by decide) ?_
        refine bq_ne (tgt := 53) hx hb (Nat.lt_trans (hB_8 t) (by decide)) (by decide) dd_M_oldest_19 rfl (fun h19 => ?_) (fun h19 => ?_)
        · refine lv_iinc (k := 3) (v := nI (t + 1)) hx hb dd_M_oldest_53 hl rfl (nI_1 _) (by decide) rfl (fun ls hl => ?_)
          have hl : lv_has ls 4 [(3, .int (nI (t + 1))), (0, .ref (ra 0)), (1, .int (nI x)), (2, .int (bd_o (sp_o N x t)))] := hl
          refine lv_goto (tgt := 4) hx hb dd_M_oldest_56 rfl ?_
          have e9 : sp_o N x (t + 1) = sp_o N x t := by simp [sp_o, sp_f, h9, Nat.not_le.mpr h9, h19]
          exact ih (t + 1) ls (by omega) (by rw [e9]; exact lv_sub hl [1, 2, 3, 0] rfl)
        · refine lv_aload_n hx hb dd_M_oldest_22 rfl (lv_at hl 0 rfl) ?_
          refine va_get (D := D) (ci := 4) (v := .ref (ra 7)) (C := rn_M) (T := ft_M) (N := 19) hx hb hts tw_fs_M hown hK hP 0 rfl rfl 7 (by decide) (hts _ tw_fl_M_26) (fun _ h9 => h9) rfl dd_M_oldest_23 ?_
          refine lv_iload_n hx hb dd_M_oldest_26 rfl (lv_at hl 3 rfl) ?_
          refine bq_iald hx hb hK hP 5 4 rfl rfl (by omega) (by decide) dd_M_oldest_27 ?_
          refine lv_iload_n hx hb dd_M_oldest_28 rfl (lv_at hl 1 rfl) ?_
          refine bq_ne (tgt := 53) hx hb (Nat.lt_trans (hB_7 t) (by decide)) (by omega) dd_M_oldest_29 rfl (fun h29 => ?_) (fun h29 => ?_)
          · refine lv_iinc (k := 3) (v := nI (t + 1)) hx hb dd_M_oldest_53 hl rfl (nI_1 _) (by decide) rfl (fun ls hl => ?_)
            have hl : lv_has ls 4 [(3, .int (nI (t + 1))), (0, .ref (ra 0)), (1, .int (nI x)), (2, .int (bd_o (sp_o N x t)))] := hl
            refine lv_goto (tgt := 4) hx hb dd_M_oldest_56 rfl ?_
            have e9 : sp_o N x (t + 1) = sp_o N x t := by simp [sp_o, sp_f, h9, Nat.not_le.mpr h9, h19, h29]
            exact ih (t + 1) ls (by omega) (by rw [e9]; exact lv_sub hl [1, 2, 3, 0] rfl)
          · refine lv_iload_n hx hb dd_M_oldest_32 rfl (lv_at hl 2 rfl) ?_
            refine bq_olt (tgt := 51) hx hb (fun k hk => by have h9 := (sp_o_some hk).1; omega) dd_M_oldest_33 rfl (fun h33 => ?_) (fun h33 => ?_)
            · refine lv_iload_n hx hb dd_M_oldest_51 rfl (lv_at hl 3 rfl) ?_
              refine lv_istore_n hx hb dd_M_oldest_52 rfl hl (by decide) rfl (fun ls hl => ?_)
              have hl : lv_has ls 4 [(2, .int (nI t)), (0, .ref (ra 0)), (1, .int (nI x)), (3, .int (nI t))] := hl
              refine lv_iinc (k := 3) (v := nI (t + 1)) hx hb dd_M_oldest_53 hl rfl (nI_1 _) (by decide) rfl (fun ls hl => ?_)
              have hl : lv_has ls 4 [(3, .int (nI (t + 1))), (2, .int (nI t)), (0, .ref (ra 0)), (1, .int (nI x))] := hl
              refine lv_goto (tgt := 4) hx hb dd_M_oldest_56 rfl ?_
              have e9 : sp_o N x (t + 1) = some t := by simp [sp_o, sp_f, h9, Nat.not_le.mpr h9, h19, h29, h33]
              exact ih (t + 1) ls (by omega) (by rw [e9]; exact lv_sub hl [2, 3, 1, 0] rfl)
            · obtain ⟨b, hb9⟩ := bd_ne h33
              have hbt := (sp_o_some hb9).1
              have hl : lv_has ls 4 [(0, .ref (ra 0)), (1, .int (nI x)), (2, .int (nI b)), (3, .int (nI t))] := by rw [hb9] at hl; exact hl
              refine lv_aload_n hx hb dd_M_oldest_36 rfl (lv_at hl 0 rfl) ?_
              refine va_get (D := D) (ci := 4) (v := .ref (ra 12)) (C := rn_M) (T := ft_M) (N := 19) hx hb hts tw_fs_M hown hK hP 0 rfl rfl 12 (by decide) (hts _ tw_fl_M_41) (fun _ h9 => h9) rfl dd_M_oldest_37 ?_
              refine lv_iload_n hx hb dd_M_oldest_40 rfl (lv_at hl 3 rfl) ?_
              refine bq_iald hx hb hK hP 10 9 rfl rfl (by omega) (by decide) dd_M_oldest_41 ?_
              refine lv_aload_n hx hb dd_M_oldest_42 rfl (lv_at hl 0 rfl) ?_
              refine va_get (D := D) (ci := 4) (v := .ref (ra 12)) (C := rn_M) (T := ft_M) (N := 19) hx hb hts tw_fs_M hown hK hP 0 rfl rfl 12 (by decide) (hts _ tw_fl_M_41) (fun _ h9 => h9) rfl dd_M_oldest_43 ?_
              refine lv_iload_n hx hb dd_M_oldest_46 rfl (lv_at hl 2 rfl) ?_
              refine bq_iald hx hb hK hP 10 9 rfl rfl (by omega) (by decide) dd_M_oldest_47 ?_
              refine bq_ge (tgt := 53) hx hb (hB_12 t) (hB_12 b) dd_M_oldest_48 rfl (fun h48 => ?_) (fun h48 => ?_)
              · refine lv_iinc (k := 3) (v := nI (t + 1)) hx hb dd_M_oldest_53 hl rfl (nI_1 _) (by decide) rfl (fun ls hl => ?_)
                have hl : lv_has ls 4 [(3, .int (nI (t + 1))), (0, .ref (ra 0)), (1, .int (nI x)), (2, .int (nI b))] := hl
                refine lv_goto (tgt := 4) hx hb dd_M_oldest_56 rfl ?_
                have e9 : sp_o N x (t + 1) = some b := by simp [sp_o, sp_f, h9, Nat.not_le.mpr h9, h19, h29, hb9, h48, Nat.not_lt.mpr h48]
                exact ih (t + 1) ls (by omega) (by rw [e9]; exact lv_sub hl [1, 2, 3, 0] rfl)
              · refine lv_iload_n hx hb dd_M_oldest_51 rfl (lv_at hl 3 rfl) ?_
                refine lv_istore_n hx hb dd_M_oldest_52 rfl hl (by decide) rfl (fun ls hl => ?_)
                have hl : lv_has ls 4 [(2, .int (nI t)), (0, .ref (ra 0)), (1, .int (nI x)), (3, .int (nI t))] := hl
                refine lv_iinc (k := 3) (v := nI (t + 1)) hx hb dd_M_oldest_53 hl rfl (nI_1 _) (by decide) rfl (fun ls hl => ?_)
                have hl : lv_has ls 4 [(3, .int (nI (t + 1))), (2, .int (nI t)), (0, .ref (ra 0)), (1, .int (nI x))] := hl
                refine lv_goto (tgt := 4) hx hb dd_M_oldest_56 rfl ?_
                have e9 : sp_o N x (t + 1) = some t := by simp [sp_o, sp_f, h9, Nat.not_le.mpr h9, h19, h29, hb9, h48, Nat.not_le.mpr h48]
                exact ih (t + 1) ls (by omega) (by rw [e9]; exact lv_sub hl [2, 3, 1, 0] rfl)
  refine lv_iconst (v := bd_o none) hx hb dd_M_oldest_0 (by decide) ?_
  refine lv_istore_n hx hb dd_M_oldest_1 rfl hl (by decide) rfl (fun ls hl => ?_)
  have hl : lv_has ls 4 [(2, .int (bd_o none)), (0, .ref (ra 0)), (1, .int (nI x))] := hl
  refine lv_iconst (v := nI 0) hx hb dd_M_oldest_2 (by decide) ?_
  refine lv_istore_n hx hb dd_M_oldest_3 rfl hl (by decide) rfl (fun ls hl => ?_)
  have hl : lv_has ls 4 [(3, .int (nI 0)), (2, .int (bd_o none)), (0, .ref (ra 0)), (1, .int (nI x))] := hl
  exact lp (N 6 0) 0 ls (by omega) (lv_sub hl [2, 3, 1, 0] rfl)

set_option maxHeartbeats 4000000 in
set_option maxRecDepth 100000 in
theorem rc_barrierRuns (l : Launch) (D : va_G) (ra : Nat → Nat) (ca : Nat → ClassId) (N : sp_N) (O : sp_O) (Z : sp_Z) (B : sp_B) (hB : sp_Bd N O) (x : Nat) (hx2 : x < 2 ^ 31) : Met l my_M_barrierRuns (Cond.code my_M_barrierRuns cd_M_barrierRuns 3 (some .boolean) :: bg_tbl) ({ frames := 1, cells := 0, slots := 0, locals := 21 }) (va_Pc [.ref (ra 0), .int (nI x)] (rf_U D ra ca N O Z B)) (vp_Si (fun r => r = bd_b (sp_b N B x))) 0 0 (fun _ => False) := by
  refine Met.ofW (cc := cd_M_barrierRuns) (maxL := 3) (ret := (some .boolean)) (by decide) rfl ?_
  intro p e s m args below meth c s₁ BB hml hv
  obtain ⟨rfl, hP, hK⟩ := hv
  have hx := BB.exec
  have hb := BB.bytes
  have hr := BB.returns
  have hts : ∀ w ∈ bg_tbl, w.before ([.ref (ra 0), .int (nI x)] : List Value).toArray s = true := fun w h => atoms_spec (ws := (Cond.code my_M_barrierRuns cd_M_barrierRuns 3 (some .boolean) :: bg_tbl)) BB.pre w (List.mem_cons_of_mem _ h)
  have hown : s.vm.findClass rn_M = some m.cls := findClass_of_methodNamed BB.named
  have hlocks := BB.notSynchronized
  obtain ⟨hB_0, hB_1, hB_2, hB_3, hB_4, hB_5, hB_6, hB_7, hB_8, hB_9, hB_10, hB_11, hB_12, hB_17⟩ := id hB
  have hl := lv_entry ([.ref (ra 0), .int (nI x)]) (n := 3) (Nat.le_of_ble_eq_true rfl)
  rw [lg_entry_eq]
  generalize (lg_sl ([.ref (ra 0), .int (nI x)]) ++ List.replicate (3 - (lg_sl ([.ref (ra 0), .int (nI x)])).length) Slot.unset).toArray = ls at hl ⊢
  have hl : lv_has ls 3 [(0, .ref (ra 0)), (1, .int (nI x))] := hl
  have lp : ∀ (n : Nat) (t : Nat) (ls : Array Slot), (n + t = N 6 0) → (sp_a (fun t => sp_v N t && B 14 t && decide (N 7 t = x)) t = false) →  lv_has ls 3 [(0, .ref (ra 0)), (1, .int (nI x)), (2, .int (nI t))] → W p l e (headSpec (Cond.code my_M_barrierRuns cd_M_barrierRuns 3 (some .boolean) :: bg_tbl) ({ frames := 1, cells := 0, slots := 0, locals := 21 })).room s m ([.ref (ra 0), .int (nI x)] : List Value).toArray below meth c s.heap [] 0 0 (MQ below (vp_Si (fun r => r = bd_b (sp_b N B x))) ([.ref (ra 0), .int (nI x)] : List Value).toArray s 0 0 (fun _ => False)) (F0 m 2 ls []) := by
    intro n
    induction n with
    | zero =>
      intro t ls hk hn hl
      refine lv_iload_n hx hb dd_M_barrierRuns_2 rfl (lv_at hl 2 rfl) ?_
      refine lv_aload_n hx hb dd_M_barrierRuns_3 rfl (lv_at hl 0 rfl) ?_
      refine va_get (D := D) (ci := 4) (v := .int (nI (N 6 0))) (C := rn_M) (T := ft_M) (N := 19) hx hb hts tw_fs_M hown hK hP 0 rfl rfl 6 (by decide) (hts _ tw_fl_M_61) (fun _ h9 => h9) rfl dd_M_barrierRuns_4 ?_
      refine bq_ge (tgt := 45) hx hb (by omega) (Nat.lt_of_le_of_lt hB_6 (by decide)) dd_M_barrierRuns_7 rfl (fun h7 => ?_) (fun h7 => ?_)
      · refine lv_iconst (v := bd_b false) hx hb dd_M_barrierRuns_45 (by decide) ?_
        exact W.zret (ty := .boolean) hx hb hr (bd_b_nar _) (fun tt htt hWW => ⟨_, rfl, (by rw [sp_b, ← show t = N 6 0 by omega, hn]), htt⟩) (fun _ h => by cases h) dd_M_barrierRuns_46
      · exact absurd h7 (by omega)
    | succ n ih =>
      intro t ls hk hn hl
      refine lv_iload_n hx hb dd_M_barrierRuns_2 rfl (lv_at hl 2 rfl) ?_
      refine lv_aload_n hx hb dd_M_barrierRuns_3 rfl (lv_at hl 0 rfl) ?_
      refine va_get (D := D) (ci := 4) (v := .int (nI (N 6 0))) (C := rn_M) (T := ft_M) (N := 19) hx hb hts tw_fs_M hown hK hP 0 rfl rfl 6 (by decide) (hts _ tw_fl_M_61) (fun _ h9 => h9) rfl dd_M_barrierRuns_4 ?_
      refine bq_ge (tgt := 45) hx hb (by omega) (Nat.lt_of_le_of_lt hB_6 (by decide)) dd_M_barrierRuns_7 rfl (fun h7 => ?_) (fun h7 => ?_)
      · exact absurd h7 (by omega)
      · refine lv_aload_n hx hb dd_M_barrierRuns_10 rfl (lv_at hl 0 rfl) ?_
        refine lv_iload_n hx hb dd_M_barrierRuns_11 rfl (lv_at hl 2 rfl) ?_
        refine rf_calli (As := [.int (nI t)]) (rest := []) (v := bd_b (sp_v N t)) ⟨hx, hb, hml, hown, hts⟩ (rc_live l D ra ca N O Z B hB t (by omega)) (bg_cwV 1 hts tw_ml_M_68 tw_im_M_live tw_se_M_live tw_in_M tw_co_M_live rfl rfl th_M_live ⟨Nat.le_of_ble_eq_true rfl, Nat.le_of_ble_eq_true rfl⟩) hK hP rfl hl.1 rfl (by decide) dd_M_barrierRuns_12 ⟨Nat.zero_le _, Nat.zero_le _⟩ ?_
        refine bq_zeq (tgt := 39) hx hb dd_M_barrierRuns_15 rfl (fun h15 => ?_) (fun h15 => ?_)
        · refine lv_iinc (k := 2) (v := nI (t + 1)) hx hb dd_M_barrierRuns_39 hl rfl (nI_1 _) (by decide) rfl (fun ls hl => ?_)
          have hl : lv_has ls 3 [(2, .int (nI (t + 1))), (0, .ref (ra 0)), (1, .int (nI x))] := hl
          refine lv_goto (tgt := 2) hx hb dd_M_barrierRuns_42 rfl ?_
          exact ih (t + 1) ls (by omega) (by simp [sp_a, hn, h7, Nat.not_le.mpr h7, h15]) (lv_sub hl [1, 2, 0] rfl)
        · refine lv_aload_n hx hb dd_M_barrierRuns_18 rfl (lv_at hl 0 rfl) ?_
          refine va_get (D := D) (ci := 4) (v := .ref (ra 14)) (C := rn_M) (T := ft_M) (N := 19) hx hb hts tw_fs_M hown hK hP 0 rfl rfl 14 (by decide) (hts _ tw_fl_M_48) (fun _ h9 => h9) rfl dd_M_barrierRuns_19 ?_
          refine lv_iload_n hx hb dd_M_barrierRuns_22 rfl (lv_at hl 2 rfl) ?_
          refine bq_zald hx hb hK hP 12 11 rfl rfl (by omega) (by decide) dd_M_barrierRuns_23 ?_
          refine bq_zeq (tgt := 39) hx hb dd_M_barrierRuns_24 rfl (fun h24 => ?_) (fun h24 => ?_)
          · refine lv_iinc (k := 2) (v := nI (t + 1)) hx hb dd_M_barrierRuns_39 hl rfl (nI_1 _) (by decide) rfl (fun ls hl => ?_)
            have hl : lv_has ls 3 [(2, .int (nI (t + 1))), (0, .ref (ra 0)), (1, .int (nI x))] := hl
            refine lv_goto (tgt := 2) hx hb dd_M_barrierRuns_42 rfl ?_
            exact ih (t + 1) ls (by omega) (by simp [sp_a, hn, h7, Nat.not_le.mpr h7, h15, h24]) (lv_sub hl [1, 2, 0] rfl)
          · refine lv_aload_n hx hb dd_M_barrierRuns_27 rfl (lv_at hl 0 rfl) ?_
            refine va_get (D := D) (ci := 4) (v := .ref (ra 7)) (C := rn_M) (T := ft_M) (N := 19) hx hb hts tw_fs_M hown hK hP 0 rfl rfl 7 (by decide) (hts _ tw_fl_M_26) (fun _ h9 => h9) rfl dd_M_barrierRuns_28 ?_
            refine lv_iload_n hx hb dd_M_barrierRuns_31 rfl (lv_at hl 2 rfl) ?_
            refine bq_iald hx hb hK hP 5 4 rfl rfl (by omega) (by decide) dd_M_barrierRuns_32 ?_
            refine lv_iload_n hx hb dd_M_barrierRuns_33 rfl (lv_at hl 1 rfl) ?_
            refine bq_ne (tgt := 39) hx hb (Nat.lt_trans (hB_7 t) (by decide)) (by omega) dd_M_barrierRuns_34 rfl (fun h34 => ?_) (fun h34 => ?_)
            · refine lv_iinc (k := 2) (v := nI (t + 1)) hx hb dd_M_barrierRuns_39 hl rfl (nI_1 _) (by decide) rfl (fun ls hl => ?_)
              have hl : lv_has ls 3 [(2, .int (nI (t + 1))), (0, .ref (ra 0)), (1, .int (nI x))] := hl
              refine lv_goto (tgt := 2) hx hb dd_M_barrierRuns_42 rfl ?_
              exact ih (t + 1) ls (by omega) (by simp [sp_a, hn, h7, Nat.not_le.mpr h7, h15, h24, h34]) (lv_sub hl [1, 2, 0] rfl)
            · refine lv_iconst (v := bd_b true) hx hb dd_M_barrierRuns_37 (by decide) ?_
              exact W.zret (ty := .boolean) hx hb hr (bd_b_nar _) (fun tt htt hWW => ⟨_, rfl, (by rw [sp_b, sp_a_iff.mpr ⟨t, by omega, by simp [h7, Nat.not_le.mpr h7, h15, h24, h34]⟩]), htt⟩) (fun _ h => by cases h) dd_M_barrierRuns_38
  refine lv_iconst (v := nI 0) hx hb dd_M_barrierRuns_0 (by decide) ?_
  refine lv_istore_n hx hb dd_M_barrierRuns_1 rfl hl (by decide) rfl (fun ls hl => ?_)
  have hl : lv_has ls 3 [(2, .int (nI 0)), (0, .ref (ra 0)), (1, .int (nI x))] := hl
  exact lp (N 6 0) 0 ls (by omega) rfl (lv_sub hl [1, 2, 0] rfl)

set_option maxHeartbeats 4000000 in
set_option maxRecDepth 100000 in
theorem rc_lets (l : Launch) (D : va_G) (ra : Nat → Nat) (ca : Nat → ClassId) (N : sp_N) (O : sp_O) (Z : sp_Z) (B : sp_B) (hB : sp_Bd N O) (x t : Nat) (hx2 : x < 12) (ht2 : t < 160) : Met l my_M_lets (Cond.code my_M_lets cd_M_lets 4 (some .boolean) :: bg_tbl) ({ frames := 2, cells := 0, slots := 0, locals := 47 }) (va_Pc [.ref (ra 0), .int (nI x), .int (nI t)] (rf_U D ra ca N O Z B)) (vp_Si (fun r => r = bd_b (sp_t N B x t))) 0 0 (fun _ => False) := by
  refine Met.ofW (cc := cd_M_lets) (maxL := 4) (ret := (some .boolean)) (by decide) rfl ?_
  intro p e s m args below meth c s₁ BB hml hv
  obtain ⟨rfl, hP, hK⟩ := hv
  have hx := BB.exec
  have hb := BB.bytes
  have hr := BB.returns
  have hts : ∀ w ∈ bg_tbl, w.before ([.ref (ra 0), .int (nI x), .int (nI t)] : List Value).toArray s = true := fun w h => atoms_spec (ws := (Cond.code my_M_lets cd_M_lets 4 (some .boolean) :: bg_tbl)) BB.pre w (List.mem_cons_of_mem _ h)
  have hown : s.vm.findClass rn_M = some m.cls := findClass_of_methodNamed BB.named
  have hlocks := BB.notSynchronized
  obtain ⟨hB_0, hB_1, hB_2, hB_3, hB_4, hB_5, hB_6, hB_7, hB_8, hB_9, hB_10, hB_11, hB_12, hB_17⟩ := id hB
  have hl := lv_entry ([.ref (ra 0), .int (nI x), .int (nI t)]) (n := 4) (Nat.le_of_ble_eq_true rfl)
  rw [lg_entry_eq]
  generalize (lg_sl ([.ref (ra 0), .int (nI x), .int (nI t)]) ++ List.replicate (4 - (lg_sl ([.ref (ra 0), .int (nI x), .int (nI t)])).length) Slot.unset).toArray = ls at hl ⊢
  have hl : lv_has ls 4 [(0, .ref (ra 0)), (1, .int (nI x)), (2, .int (nI t))] := hl
  refine lv_iload_n hx hb dd_M_lets_0 rfl (lv_at hl 1 rfl) ?_
  refine lv_iconst (v := nI 3) hx hb dd_M_lets_1 (by decide) ?_
  refine bq_lt (tgt := 30) hx hb (by omega) (by decide) dd_M_lets_2 rfl (fun h2 => ?_) (fun h2 => ?_)
  · refine lv_aload_n hx hb dd_M_lets_30 rfl (lv_at hl 0 rfl) ?_
    refine lv_iload_n hx hb dd_M_lets_31 rfl (lv_at hl 1 rfl) ?_
    refine rf_calli (As := [.int (nI x)]) (rest := []) (v := bd_b (sp_b N B x)) ⟨hx, hb, hml, hown, hts⟩ (rc_barrierRuns l D ra ca N O Z B hB x (by omega)) (bg_cwV 1 hts tw_ml_M_76 tw_im_M_barrierRuns tw_se_M_barrierRuns tw_in_M tw_co_M_barrierRuns rfl rfl th_M_barrierRuns ⟨Nat.le_of_ble_eq_true rfl, Nat.le_of_ble_eq_true rfl⟩) hK hP rfl hl.1 rfl (by decide) dd_M_lets_32 ⟨Nat.zero_le _, Nat.zero_le _⟩ ?_
    refine bq_zeq (tgt := 40) hx hb dd_M_lets_35 rfl (fun h35 => ?_) (fun h35 => ?_)
    · refine lv_iload_n hx hb dd_M_lets_40 rfl (lv_at hl 1 rfl) ?_
      refine lv_aload_n hx hb dd_M_lets_41 rfl (lv_at hl 0 rfl) ?_
      refine va_get (D := D) (ci := 4) (v := .ref (ra 7)) (C := rn_M) (T := ft_M) (N := 19) hx hb hts tw_fs_M hown hK hP 0 rfl rfl 7 (by decide) (hts _ tw_fl_M_26) (fun _ h9 => h9) rfl dd_M_lets_42 ?_
      refine lv_iload_n hx hb dd_M_lets_45 rfl (lv_at hl 2 rfl) ?_
      refine bq_iald hx hb hK hP 5 4 rfl rfl ht2 (by decide) dd_M_lets_46 ?_
      refine bq_ne (tgt := 54) hx hb (by omega) (Nat.lt_trans (hB_7 t) (by decide)) dd_M_lets_47 rfl (fun h47 => ?_) (fun h47 => ?_)
      · refine lv_aload_n hx hb dd_M_lets_54 rfl (lv_at hl 0 rfl) ?_
        refine lv_iload_n hx hb dd_M_lets_55 rfl (lv_at hl 1 rfl) ?_
        refine rf_calli (As := [.int (nI x)]) (rest := []) (v := bd_o (sp_o N x (N 6 0))) ⟨hx, hb, hml, hown, hts⟩ (rc_oldest l D ra ca N O Z B hB x (by omega)) (bg_cwV 1 hts tw_ml_M_79 tw_im_M_oldest tw_se_M_oldest tw_in_M tw_co_M_oldest rfl rfl th_M_oldest ⟨Nat.le_of_ble_eq_true rfl, Nat.le_of_ble_eq_true rfl⟩) hK hP rfl hl.1 rfl (by decide) dd_M_lets_56 ⟨Nat.zero_le _, Nat.zero_le _⟩ ?_
        refine lv_istore_n hx hb dd_M_lets_59 rfl hl (by decide) rfl (fun ls hl => ?_)
        have hl : lv_has ls 4 [(3, .int (bd_o (sp_o N x (N 6 0)))), (0, .ref (ra 0)), (1, .int (nI x)), (2, .int (nI t))] := hl
        refine lv_iload_n hx hb dd_M_lets_60 rfl (lv_at hl 0 rfl) ?_
        refine bq_olt (tgt := 73) hx hb (fun k hk => by have h9 := (sp_o_some hk).1; omega) dd_M_lets_61 rfl (fun h61 => ?_) (fun h61 => ?_)
        · refine lv_iconst (v := bd_b true) hx hb dd_M_lets_73 (by decide) ?_
          refine lv_goto (tgt := 78) hx hb dd_M_lets_74 rfl ?_
          exact W.zret (ty := .boolean) hx hb hr (bd_b_nar _) (fun tt htt hWW => ⟨_, rfl, (by simp [sp_t, sp_ff, h2, Nat.not_le.mpr h2, h35, h47, h61]), htt⟩) (fun _ h => by cases h) dd_M_lets_78
        · obtain ⟨b, hb9⟩ := bd_ne h61
          have hbt := (sp_o_some hb9).1
          have hl : lv_has ls 4 [(3, .int (nI b)), (0, .ref (ra 0)), (1, .int (nI x)), (2, .int (nI t))] := by rw [hb9] at hl; exact hl
          refine lv_aload_n hx hb dd_M_lets_64 rfl (lv_at hl 1 rfl) ?_
          refine va_get (D := D) (ci := 4) (v := .ref (ra 14)) (C := rn_M) (T := ft_M) (N := 19) hx hb hts tw_fs_M hown hK hP 0 rfl rfl 14 (by decide) (hts _ tw_fl_M_48) (fun _ h9 => h9) rfl dd_M_lets_65 ?_
          refine lv_iload_n hx hb dd_M_lets_68 rfl (lv_at hl 0 rfl) ?_
          refine bq_zald hx hb hK hP 12 11 rfl rfl (by omega) (by decide) dd_M_lets_69 ?_
          refine bq_zne (tgt := 77) hx hb dd_M_lets_70 rfl (fun h70 => ?_) (fun h70 => ?_)
          · refine lv_iconst (v := bd_b false) hx hb dd_M_lets_77 (by decide) ?_
            exact W.zret (ty := .boolean) hx hb hr (bd_b_nar _) (fun tt htt hWW => ⟨_, rfl, (by simp [sp_t, sp_ff, h2, Nat.not_le.mpr h2, h35, h47, hb9, h70]), htt⟩) (fun _ h => by cases h) dd_M_lets_78
          · refine lv_iconst (v := bd_b true) hx hb dd_M_lets_73 (by decide) ?_
            refine lv_goto (tgt := 78) hx hb dd_M_lets_74 rfl ?_
            exact W.zret (ty := .boolean) hx hb hr (bd_b_nar _) (fun tt htt hWW => ⟨_, rfl, (by simp [sp_t, sp_ff, h2, Nat.not_le.mpr h2, h35, h47, hb9, h70]), htt⟩) (fun _ h => by cases h) dd_M_lets_78
      · refine lv_iconst (v := bd_o none) hx hb dd_M_lets_50 (by decide) ?_
        refine lv_goto (tgt := 59) hx hb dd_M_lets_51 rfl ?_
        refine lv_istore_n hx hb dd_M_lets_59 rfl hl (by decide) rfl (fun ls hl => ?_)
        have hl : lv_has ls 4 [(3, .int (bd_o none)), (0, .ref (ra 0)), (1, .int (nI x)), (2, .int (nI t))] := hl
        refine lv_iload_n hx hb dd_M_lets_60 rfl (lv_at hl 0 rfl) ?_
        refine bq_olt (tgt := 73) hx hb (fun k hk => by cases hk) dd_M_lets_61 rfl (fun h61 => ?_) (fun h61 => ?_)
        · refine lv_iconst (v := bd_b true) hx hb dd_M_lets_73 (by decide) ?_
          refine lv_goto (tgt := 78) hx hb dd_M_lets_74 rfl ?_
          exact W.zret (ty := .boolean) hx hb hr (bd_b_nar _) (fun tt htt hWW => ⟨_, rfl, (by simp [sp_t, sp_ff, h2, Nat.not_le.mpr h2, h35, ← h47, h61]), htt⟩) (fun _ h => by cases h) dd_M_lets_78
        · exact absurd rfl h61
    · refine lv_iconst (v := bd_b false) hx hb dd_M_lets_38 (by decide) ?_
      exact W.zret (ty := .boolean) hx hb hr (bd_b_nar _) (fun tt htt hWW => ⟨_, rfl, (by simp [sp_t, sp_ff, h2, Nat.not_le.mpr h2, h35]), htt⟩) (fun _ h => by cases h) dd_M_lets_39
  · refine lv_aload_n hx hb dd_M_lets_5 rfl (lv_at hl 0 rfl) ?_
    refine va_get (D := D) (ci := 4) (v := .ref (ra 4)) (C := rn_M) (T := ft_M) (N := 19) hx hb hts tw_fs_M hown hK hP 0 rfl rfl 4 (by decide) (hts _ tw_fl_M_20) (fun _ h9 => h9) rfl dd_M_lets_6 ?_
    refine lv_iload_n hx hb dd_M_lets_9 rfl (lv_at hl 1 rfl) ?_
    refine bq_iald hx hb hK hP 3 2 rfl rfl hx2 (by decide) dd_M_lets_10 ?_
    refine bq_ngt (tgt := 28) hx hb (Nat.lt_of_le_of_lt (hB_4 x) (by decide)) dd_M_lets_11 rfl (fun h11 => ?_) (fun h11 => ?_)
    · refine lv_iconst (v := bd_b false) hx hb dd_M_lets_28 (by decide) ?_
      exact W.zret (ty := .boolean) hx hb hr (bd_b_nar _) (fun tt htt hWW => ⟨_, rfl, (by simp [sp_t, sp_ff, h2, Nat.not_lt.mpr h2, h11, Nat.not_le.mpr h11]), htt⟩) (fun _ h => by cases h) dd_M_lets_29
    · refine lv_aload_n hx hb dd_M_lets_14 rfl (lv_at hl 0 rfl) ?_
      refine lv_iload_n hx hb dd_M_lets_15 rfl (lv_at hl 1 rfl) ?_
      refine rf_calli (As := [.int (nI x)]) (rest := []) (v := nI (sp_p N x)) ⟨hx, hb, hml, hown, hts⟩ (rc_passing l D ra ca N O Z B hB x (by omega)) (bg_cwV 1 hts tw_ml_M_72 tw_im_M_passing tw_se_M_passing tw_in_M tw_co_M_passing rfl rfl th_M_passing ⟨Nat.le_of_ble_eq_true rfl, Nat.le_of_ble_eq_true rfl⟩) hK hP rfl hl.1 rfl (by decide) dd_M_lets_16 ⟨Nat.zero_le _, Nat.zero_le _⟩ ?_
      refine lv_aload_n hx hb dd_M_lets_19 rfl (lv_at hl 0 rfl) ?_
      refine va_get (D := D) (ci := 4) (v := .ref (ra 3)) (C := rn_M) (T := ft_M) (N := 19) hx hb hts tw_fs_M hown hK hP 0 rfl rfl 3 (by decide) (hts _ tw_fl_M_17) (fun _ h9 => h9) rfl dd_M_lets_20 ?_
      refine lv_iload_n hx hb dd_M_lets_23 rfl (lv_at hl 1 rfl) ?_
      refine bq_iald hx hb hK hP 2 1 rfl rfl hx2 (by decide) dd_M_lets_24 ?_
      refine bq_lt (tgt := 30) hx hb (Nat.lt_of_le_of_lt (Nat.le_trans (sp_c_le _ _) hB_6) (by decide)) (Nat.lt_of_le_of_lt (hB_3 x) (by decide)) dd_M_lets_25 rfl (fun h25 => ?_) (fun h25 => ?_)
      · refine lv_aload_n hx hb dd_M_lets_30 rfl (lv_at hl 0 rfl) ?_
        refine lv_iload_n hx hb dd_M_lets_31 rfl (lv_at hl 1 rfl) ?_
        refine rf_calli (As := [.int (nI x)]) (rest := []) (v := bd_b (sp_b N B x)) ⟨hx, hb, hml, hown, hts⟩ (rc_barrierRuns l D ra ca N O Z B hB x (by omega)) (bg_cwV 1 hts tw_ml_M_76 tw_im_M_barrierRuns tw_se_M_barrierRuns tw_in_M tw_co_M_barrierRuns rfl rfl th_M_barrierRuns ⟨Nat.le_of_ble_eq_true rfl, Nat.le_of_ble_eq_true rfl⟩) hK hP rfl hl.1 rfl (by decide) dd_M_lets_32 ⟨Nat.zero_le _, Nat.zero_le _⟩ ?_
        refine bq_zeq (tgt := 40) hx hb dd_M_lets_35 rfl (fun h35 => ?_) (fun h35 => ?_)
        · refine lv_iload_n hx hb dd_M_lets_40 rfl (lv_at hl 1 rfl) ?_
          refine lv_aload_n hx hb dd_M_lets_41 rfl (lv_at hl 0 rfl) ?_
          refine va_get (D := D) (ci := 4) (v := .ref (ra 7)) (C := rn_M) (T := ft_M) (N := 19) hx hb hts tw_fs_M hown hK hP 0 rfl rfl 7 (by decide) (hts _ tw_fl_M_26) (fun _ h9 => h9) rfl dd_M_lets_42 ?_
          refine lv_iload_n hx hb dd_M_lets_45 rfl (lv_at hl 2 rfl) ?_
          refine bq_iald hx hb hK hP 5 4 rfl rfl ht2 (by decide) dd_M_lets_46 ?_
          refine bq_ne (tgt := 54) hx hb (by omega) (Nat.lt_trans (hB_7 t) (by decide)) dd_M_lets_47 rfl (fun h47 => ?_) (fun h47 => ?_)
          · refine lv_aload_n hx hb dd_M_lets_54 rfl (lv_at hl 0 rfl) ?_
            refine lv_iload_n hx hb dd_M_lets_55 rfl (lv_at hl 1 rfl) ?_
            refine rf_calli (As := [.int (nI x)]) (rest := []) (v := bd_o (sp_o N x (N 6 0))) ⟨hx, hb, hml, hown, hts⟩ (rc_oldest l D ra ca N O Z B hB x (by omega)) (bg_cwV 1 hts tw_ml_M_79 tw_im_M_oldest tw_se_M_oldest tw_in_M tw_co_M_oldest rfl rfl th_M_oldest ⟨Nat.le_of_ble_eq_true rfl, Nat.le_of_ble_eq_true rfl⟩) hK hP rfl hl.1 rfl (by decide) dd_M_lets_56 ⟨Nat.zero_le _, Nat.zero_le _⟩ ?_
            refine lv_istore_n hx hb dd_M_lets_59 rfl hl (by decide) rfl (fun ls hl => ?_)
            have hl : lv_has ls 4 [(3, .int (bd_o (sp_o N x (N 6 0)))), (0, .ref (ra 0)), (1, .int (nI x)), (2, .int (nI t))] := hl
            refine lv_iload_n hx hb dd_M_lets_60 rfl (lv_at hl 0 rfl) ?_
            refine bq_olt (tgt := 73) hx hb (fun k hk => by have h9 := (sp_o_some hk).1; omega) dd_M_lets_61 rfl (fun h61 => ?_) (fun h61 => ?_)
            · refine lv_iconst (v := bd_b true) hx hb dd_M_lets_73 (by decide) ?_
              refine lv_goto (tgt := 78) hx hb dd_M_lets_74 rfl ?_
              exact W.zret (ty := .boolean) hx hb hr (bd_b_nar _) (fun tt htt hWW => ⟨_, rfl, (by simp [sp_t, sp_ff, h2, Nat.not_lt.mpr h2, h11, h25, Nat.not_le.mpr h25, h35, h47, h61]), htt⟩) (fun _ h => by cases h) dd_M_lets_78
            · obtain ⟨b, hb9⟩ := bd_ne h61
              have hbt := (sp_o_some hb9).1
              have hl : lv_has ls 4 [(3, .int (nI b)), (0, .ref (ra 0)), (1, .int (nI x)), (2, .int (nI t))] := by rw [hb9] at hl; exact hl
              refine lv_aload_n hx hb dd_M_lets_64 rfl (lv_at hl 1 rfl) ?_
              refine va_get (D := D) (ci := 4) (v := .ref (ra 14)) (C := rn_M) (T := ft_M) (N := 19) hx hb hts tw_fs_M hown hK hP 0 rfl rfl 14 (by decide) (hts _ tw_fl_M_48) (fun _ h9 => h9) rfl dd_M_lets_65 ?_
              refine lv_iload_n hx hb dd_M_lets_68 rfl (lv_at hl 0 rfl) ?_
              refine bq_zald hx hb hK hP 12 11 rfl rfl (by omega) (by decide) dd_M_lets_69 ?_
              refine bq_zne (tgt := 77) hx hb dd_M_lets_70 rfl (fun h70 => ?_) (fun h70 => ?_)
              · refine lv_iconst (v := bd_b false) hx hb dd_M_lets_77 (by decide) ?_
                exact W.zret (ty := .boolean) hx hb hr (bd_b_nar _) (fun tt htt hWW => ⟨_, rfl, (by simp [sp_t, sp_ff, h2, Nat.not_lt.mpr h2, h11, h25, Nat.not_le.mpr h25, h35, h47, hb9, h70]), htt⟩) (fun _ h => by cases h) dd_M_lets_78
              · refine lv_iconst (v := bd_b true) hx hb dd_M_lets_73 (by decide) ?_
                refine lv_goto (tgt := 78) hx hb dd_M_lets_74 rfl ?_
                exact W.zret (ty := .boolean) hx hb hr (bd_b_nar _) (fun tt htt hWW => ⟨_, rfl, (by simp [sp_t, sp_ff, h2, Nat.not_lt.mpr h2, h11, h25, Nat.not_le.mpr h25, h35, h47, hb9, h70]), htt⟩) (fun _ h => by cases h) dd_M_lets_78
          · refine lv_iconst (v := bd_o none) hx hb dd_M_lets_50 (by decide) ?_
            refine lv_goto (tgt := 59) hx hb dd_M_lets_51 rfl ?_
            refine lv_istore_n hx hb dd_M_lets_59 rfl hl (by decide) rfl (fun ls hl => ?_)
            have hl : lv_has ls 4 [(3, .int (bd_o none)), (0, .ref (ra 0)), (1, .int (nI x)), (2, .int (nI t))] := hl
            refine lv_iload_n hx hb dd_M_lets_60 rfl (lv_at hl 0 rfl) ?_
            refine bq_olt (tgt := 73) hx hb (fun k hk => by cases hk) dd_M_lets_61 rfl (fun h61 => ?_) (fun h61 => ?_)
            · refine lv_iconst (v := bd_b true) hx hb dd_M_lets_73 (by decide) ?_
              refine lv_goto (tgt := 78) hx hb dd_M_lets_74 rfl ?_
              exact W.zret (ty := .boolean) hx hb hr (bd_b_nar _) (fun tt htt hWW => ⟨_, rfl, (by simp [sp_t, sp_ff, h2, Nat.not_lt.mpr h2, h11, h25, Nat.not_le.mpr h25, h35, ← h47, h61]), htt⟩) (fun _ h => by cases h) dd_M_lets_78
            · exact absurd rfl h61
        · refine lv_iconst (v := bd_b false) hx hb dd_M_lets_38 (by decide) ?_
          exact W.zret (ty := .boolean) hx hb hr (bd_b_nar _) (fun tt htt hWW => ⟨_, rfl, (by simp [sp_t, sp_ff, h2, Nat.not_lt.mpr h2, h11, h25, Nat.not_le.mpr h25, h35]), htt⟩) (fun _ h => by cases h) dd_M_lets_39
      · refine lv_iconst (v := bd_b false) hx hb dd_M_lets_28 (by decide) ?_
        exact W.zret (ty := .boolean) hx hb hr (bd_b_nar _) (fun tt htt hWW => ⟨_, rfl, (by simp [sp_t, sp_ff, h2, Nat.not_lt.mpr h2, h11, h25, Nat.not_lt.mpr h25]), htt⟩) (fun _ h => by cases h) dd_M_lets_29

set_option maxHeartbeats 4000000 in
set_option maxRecDepth 100000 in
theorem rc_mayStart (l : Launch) (D : va_G) (ra : Nat → Nat) (ca : Nat → ClassId) (N : sp_N) (O : sp_O) (Z : sp_Z) (B : sp_B) (hB : sp_Bd N O) (t : Nat) (ht2 : t < 160) : Met l my_M_mayStart (Cond.code my_M_mayStart cd_M_mayStart 3 (some .boolean) :: bg_tbl) ({ frames := 3, cells := 0, slots := 0, locals := 70 }) (va_Pc [.ref (ra 0), .int (nI t)] (rf_U D ra ca N O Z B)) (vp_Si (fun r => r = bd_b (sp_m N O B t))) 0 0 (fun _ => False) := by
  refine Met.ofW (cc := cd_M_mayStart) (maxL := 3) (ret := (some .boolean)) (by decide) rfl ?_
  intro p e s m args below meth c s₁ BB hml hv
  obtain ⟨rfl, hP, hK⟩ := hv
  have hx := BB.exec
  have hb := BB.bytes
  have hr := BB.returns
  have hts : ∀ w ∈ bg_tbl, w.before ([.ref (ra 0), .int (nI t)] : List Value).toArray s = true := fun w h => atoms_spec (ws := (Cond.code my_M_mayStart cd_M_mayStart 3 (some .boolean) :: bg_tbl)) BB.pre w (List.mem_cons_of_mem _ h)
  have hown : s.vm.findClass rn_M = some m.cls := findClass_of_methodNamed BB.named
  have hlocks := BB.notSynchronized
  obtain ⟨hB_0, hB_1, hB_2, hB_3, hB_4, hB_5, hB_6, hB_7, hB_8, hB_9, hB_10, hB_11, hB_12, hB_17⟩ := id hB
  have hl := lv_entry ([.ref (ra 0), .int (nI t)]) (n := 3) (Nat.le_of_ble_eq_true rfl)
  rw [lg_entry_eq]
  generalize (lg_sl ([.ref (ra 0), .int (nI t)]) ++ List.replicate (3 - (lg_sl ([.ref (ra 0), .int (nI t)])).length) Slot.unset).toArray = ls at hl ⊢
  have hl : lv_has ls 3 [(0, .ref (ra 0)), (1, .int (nI t))] := hl
  have lp : ∀ (n : Nat) (x : Nat) (ls : Array Slot), (n + x = N 1 0) → (sp_a (fun x => sp_l N (N 7 t) x && !sp_t N B x t) x = false) → (sp_m N O B t = !(sp_a (fun x => sp_l N (N 7 t) x && !sp_t N B x t) (N 1 0))) →  lv_has ls 3 [(0, .ref (ra 0)), (1, .int (nI t)), (2, .int (nI x))] → W p l e (headSpec (Cond.code my_M_mayStart cd_M_mayStart 3 (some .boolean) :: bg_tbl) ({ frames := 3, cells := 0, slots := 0, locals := 70 })).room s m ([.ref (ra 0), .int (nI t)] : List Value).toArray below meth c s.heap [] 0 0 (MQ below (vp_Si (fun r => r = bd_b (sp_m N O B t))) ([.ref (ra 0), .int (nI t)] : List Value).toArray s 0 0 (fun _ => False)) (F0 m 83 ls []) := by
    intro n
    induction n with
    | zero =>
      intro x ls hk hn he hl
      refine lv_iload_n hx hb dd_M_mayStart_83 rfl (lv_at hl 2 rfl) ?_
      refine lv_aload_n hx hb dd_M_mayStart_84 rfl (lv_at hl 0 rfl) ?_
      refine va_get (D := D) (ci := 4) (v := .int (nI (N 1 0))) (C := rn_M) (T := ft_M) (N := 19) hx hb hts tw_fs_M hown hK hP 0 rfl rfl 1 (by decide) (hts _ tw_fl_M_7) (fun _ h9 => h9) rfl dd_M_mayStart_85 ?_
      refine bq_ge (tgt := 122) hx hb (by omega) (Nat.lt_of_le_of_lt hB_1 (by decide)) dd_M_mayStart_88 rfl (fun h88 => ?_) (fun h88 => ?_)
      · refine lv_iconst (v := bd_b true) hx hb dd_M_mayStart_122 (by decide) ?_
        exact W.zret (ty := .boolean) hx hb hr (bd_b_nar _) (fun tt htt hWW => ⟨_, rfl, (by rw [he, ← show x = N 1 0 by omega, hn]; rfl), htt⟩) (fun _ h => by cases h) dd_M_mayStart_123
      · exact absurd h88 (by omega)
    | succ n ih =>
      intro x ls hk hn he hl
      refine lv_iload_n hx hb dd_M_mayStart_83 rfl (lv_at hl 2 rfl) ?_
      refine lv_aload_n hx hb dd_M_mayStart_84 rfl (lv_at hl 0 rfl) ?_
      refine va_get (D := D) (ci := 4) (v := .int (nI (N 1 0))) (C := rn_M) (T := ft_M) (N := 19) hx hb hts tw_fs_M hown hK hP 0 rfl rfl 1 (by decide) (hts _ tw_fl_M_7) (fun _ h9 => h9) rfl dd_M_mayStart_85 ?_
      refine bq_ge (tgt := 122) hx hb (by omega) (Nat.lt_of_le_of_lt hB_1 (by decide)) dd_M_mayStart_88 rfl (fun h88 => ?_) (fun h88 => ?_)
      · exact absurd h88 (by omega)
      · refine lv_aload_n hx hb dd_M_mayStart_91 rfl (lv_at hl 0 rfl) ?_
        refine lv_aload_n hx hb dd_M_mayStart_92 rfl (lv_at hl 0 rfl) ?_
        refine va_get (D := D) (ci := 4) (v := .ref (ra 7)) (C := rn_M) (T := ft_M) (N := 19) hx hb hts tw_fs_M hown hK hP 0 rfl rfl 7 (by decide) (hts _ tw_fl_M_26) (fun _ h9 => h9) rfl dd_M_mayStart_93 ?_
        refine lv_iload_n hx hb dd_M_mayStart_96 rfl (lv_at hl 1 rfl) ?_
        refine bq_iald hx hb hK hP 5 4 rfl rfl ht2 (by decide) dd_M_mayStart_97 ?_
        refine lv_iload_n hx hb dd_M_mayStart_98 rfl (lv_at hl 2 rfl) ?_
        refine rf_calli (As := [.int (nI (N 7 t)), .int (nI x)]) (rest := []) (v := bd_b (sp_l N (N 7 t) x)) ⟨hx, hb, hml, hown, hts⟩ (rc_leads l D ra ca N O Z B hB (N 7 t) x (hB_7 t) (by omega)) (bg_cwV 2 hts tw_ml_M_64 tw_im_M_leads tw_se_M_leads tw_in_M tw_co_M_leads rfl rfl th_M_leads ⟨Nat.le_of_ble_eq_true rfl, Nat.le_of_ble_eq_true rfl⟩) hK hP rfl hl.1 rfl (by decide) dd_M_mayStart_99 ⟨Nat.zero_le _, Nat.zero_le _⟩ ?_
        refine bq_zeq (tgt := 116) hx hb dd_M_mayStart_102 rfl (fun h102 => ?_) (fun h102 => ?_)
        · refine lv_iinc (k := 2) (v := nI (x + 1)) hx hb dd_M_mayStart_116 hl rfl (nI_1 _) (by decide) rfl (fun ls hl => ?_)
          have hl : lv_has ls 3 [(2, .int (nI (x + 1))), (0, .ref (ra 0)), (1, .int (nI t))] := hl
          refine lv_goto (tgt := 83) hx hb dd_M_mayStart_119 rfl ?_
          exact ih (x + 1) ls (by omega) (by simp [sp_a, hn, h88, Nat.not_le.mpr h88, h102]) he (lv_sub hl [1, 2, 0] rfl)
        · refine lv_aload_n hx hb dd_M_mayStart_105 rfl (lv_at hl 0 rfl) ?_
          refine lv_iload_n hx hb dd_M_mayStart_106 rfl (lv_at hl 2 rfl) ?_
          refine lv_iload_n hx hb dd_M_mayStart_107 rfl (lv_at hl 1 rfl) ?_
          refine rf_calli (As := [.int (nI x), .int (nI t)]) (rest := []) (v := bd_b (sp_t N B x t)) ⟨hx, hb, hml, hown, hts⟩ (rc_lets l D ra ca N O Z B hB x t (by omega) ht2) (bg_cwV 2 hts tw_ml_M_86 tw_im_M_lets tw_se_M_lets tw_in_M tw_co_M_lets rfl rfl th_M_lets ⟨Nat.le_of_ble_eq_true rfl, Nat.le_of_ble_eq_true rfl⟩) hK hP rfl hl.1 rfl (by decide) dd_M_mayStart_108 ⟨Nat.zero_le _, Nat.zero_le _⟩ ?_
          refine bq_zne (tgt := 116) hx hb dd_M_mayStart_111 rfl (fun h111 => ?_) (fun h111 => ?_)
          · refine lv_iinc (k := 2) (v := nI (x + 1)) hx hb dd_M_mayStart_116 hl rfl (nI_1 _) (by decide) rfl (fun ls hl => ?_)
            have hl : lv_has ls 3 [(2, .int (nI (x + 1))), (0, .ref (ra 0)), (1, .int (nI t))] := hl
            refine lv_goto (tgt := 83) hx hb dd_M_mayStart_119 rfl ?_
            exact ih (x + 1) ls (by omega) (by simp [sp_a, hn, h88, Nat.not_le.mpr h88, h102, h111]) he (lv_sub hl [1, 2, 0] rfl)
          · refine lv_iconst (v := bd_b false) hx hb dd_M_mayStart_114 (by decide) ?_
            exact W.zret (ty := .boolean) hx hb hr (bd_b_nar _) (fun tt htt hWW => ⟨_, rfl, (by rw [he, sp_a_iff.mpr ⟨x, by omega, by simp [h88, Nat.not_le.mpr h88, h102, h111]⟩]; rfl), htt⟩) (fun _ h => by cases h) dd_M_mayStart_115
  refine lv_aload_n hx hb dd_M_mayStart_0 rfl (lv_at hl 0 rfl) ?_
  refine va_get (D := D) (ci := 4) (v := .ref (ra 8)) (C := rn_M) (T := ft_M) (N := 19) hx hb hts tw_fs_M hown hK hP 0 rfl rfl 8 (by decide) (hts _ tw_fl_M_29) (fun _ h9 => h9) rfl dd_M_mayStart_1 ?_
  refine lv_iload_n hx hb dd_M_mayStart_4 rfl (lv_at hl 1 rfl) ?_
  refine bq_iald hx hb hK hP 6 5 rfl rfl ht2 (by decide) dd_M_mayStart_5 ?_
  refine lv_iconst (v := nI 2) hx hb dd_M_mayStart_6 (by decide) ?_
  refine bq_ne (tgt := 24) hx hb (Nat.lt_trans (hB_8 t) (by decide)) (by decide) dd_M_mayStart_7 rfl (fun h7 => ?_) (fun h7 => ?_)
  · refine lv_iconst (v := bd_b false) hx hb dd_M_mayStart_24 (by decide) ?_
    exact W.zret (ty := .boolean) hx hb hr (bd_b_nar _) (fun tt htt hWW => ⟨_, rfl, (by simp [sp_m, h7]), htt⟩) (fun _ h => by cases h) dd_M_mayStart_25
  · refine lv_aload_n hx hb dd_M_mayStart_10 rfl (lv_at hl 0 rfl) ?_
    refine lv_aload_n hx hb dd_M_mayStart_11 rfl (lv_at hl 0 rfl) ?_
    refine va_get (D := D) (ci := 4) (v := .ref (ra 7)) (C := rn_M) (T := ft_M) (N := 19) hx hb hts tw_fs_M hown hK hP 0 rfl rfl 7 (by decide) (hts _ tw_fl_M_26) (fun _ h9 => h9) rfl dd_M_mayStart_12 ?_
    refine lv_iload_n hx hb dd_M_mayStart_15 rfl (lv_at hl 1 rfl) ?_
    refine bq_iald hx hb hK hP 5 4 rfl rfl ht2 (by decide) dd_M_mayStart_16 ?_
    refine rf_calli (As := [.int (nI (N 7 t))]) (rest := []) (v := bd_o (sp_o N (N 7 t) (N 6 0))) ⟨hx, hb, hml, hown, hts⟩ (rc_oldest l D ra ca N O Z B hB (N 7 t) (Nat.lt_trans (hB_7 t) (by decide))) (bg_cwV 1 hts tw_ml_M_79 tw_im_M_oldest tw_se_M_oldest tw_in_M tw_co_M_oldest rfl rfl th_M_oldest ⟨Nat.le_of_ble_eq_true rfl, Nat.le_of_ble_eq_true rfl⟩) hK hP rfl hl.1 rfl (by decide) dd_M_mayStart_17 ⟨Nat.zero_le _, Nat.zero_le _⟩ ?_
    refine lv_iload_n hx hb dd_M_mayStart_20 rfl (lv_at hl 1 rfl) ?_
    refine bq_oeq (tgt := 26) hx hb (fun k hk => by have h9 := (sp_o_some hk).1; omega) (by omega) dd_M_mayStart_21 rfl (fun h21 => ?_) (fun h21 => ?_)
    · refine lv_aload_n hx hb dd_M_mayStart_26 rfl (lv_at hl 0 rfl) ?_
      refine va_get (D := D) (ci := 4) (v := .ref (ra 14)) (C := rn_M) (T := ft_M) (N := 19) hx hb hts tw_fs_M hown hK hP 0 rfl rfl 14 (by decide) (hts _ tw_fl_M_48) (fun _ h9 => h9) rfl dd_M_mayStart_27 ?_
      refine lv_iload_n hx hb dd_M_mayStart_30 rfl (lv_at hl 1 rfl) ?_
      refine bq_zald hx hb hK hP 12 11 rfl rfl ht2 (by decide) dd_M_mayStart_31 ?_
      refine bq_zeq (tgt := 50) hx hb dd_M_mayStart_32 rfl (fun h32 => ?_) (fun h32 => ?_)
      · refine lv_aload_n hx hb dd_M_mayStart_50 rfl (lv_at hl 0 rfl) ?_
        refine va_get (D := D) (ci := 4) (v := .ref (ra 15)) (C := rn_M) (T := ft_M) (N := 19) hx hb hts tw_fs_M hown hK hP 0 rfl rfl 15 (by decide) (hts _ tw_fl_M_52) (fun _ h9 => h9) rfl dd_M_mayStart_51 ?_
        refine lv_iload_n hx hb dd_M_mayStart_54 rfl (lv_at hl 1 rfl) ?_
        refine bq_zald hx hb hK hP 13 12 rfl rfl ht2 (by decide) dd_M_mayStart_55 ?_
        refine bq_zne (tgt := 81) hx hb dd_M_mayStart_56 rfl (fun h56 => ?_) (fun h56 => ?_)
        · refine lv_iconst (v := nI 0) hx hb dd_M_mayStart_81 (by decide) ?_
          refine lv_istore_n hx hb dd_M_mayStart_82 rfl hl (by decide) rfl (fun ls hl => ?_)
          have hl : lv_has ls 3 [(2, .int (nI 0)), (0, .ref (ra 0)), (1, .int (nI t))] := hl
          exact lp (N 1 0) 0 ls (by omega) rfl (by simp [sp_m, h7, h21, h32, h56]) (lv_sub hl [1, 2, 0] rfl)
        · refine lv_aload_n hx hb dd_M_mayStart_59 rfl (lv_at hl 0 rfl) ?_
          refine va_get (D := D) (ci := 4) (v := .ref (ra 9)) (C := rn_M) (T := ft_M) (N := 19) hx hb hts tw_fs_M hown hK hP 0 rfl rfl 9 (by decide) (hts _ tw_fl_M_32) (fun _ h9 => h9) rfl dd_M_mayStart_60 ?_
          refine lv_iload_n hx hb dd_M_mayStart_63 rfl (lv_at hl 1 rfl) ?_
          refine bq_iald hx hb hK hP 7 6 rfl rfl ht2 (by decide) dd_M_mayStart_64 ?_
          refine bq_oge (tgt := 81) hx hb (fun k hk => Nat.lt_trans (hB_9 _ k hk) (by decide)) dd_M_mayStart_65 rfl (fun h65 => ?_) (fun h65 => ?_)
          · refine lv_iconst (v := nI 0) hx hb dd_M_mayStart_81 (by decide) ?_
            refine lv_istore_n hx hb dd_M_mayStart_82 rfl hl (by decide) rfl (fun ls hl => ?_)
            have hl : lv_has ls 3 [(2, .int (nI 0)), (0, .ref (ra 0)), (1, .int (nI t))] := hl
            exact lp (N 1 0) 0 ls (by omega) rfl (by simp [sp_m, h7, h21, h32, h56, h65]) (lv_sub hl [1, 2, 0] rfl)
          · refine lv_aload_n hx hb dd_M_mayStart_68 rfl (lv_at hl 0 rfl) ?_
            refine rf_calli (As := []) (rest := []) (v := nI (sp_w N O)) ⟨hx, hb, hml, hown, hts⟩ (rc_workersInUse l D ra ca N O Z B hB) (bg_cwV 0 hts tw_ml_M_82 tw_im_M_workersInUse tw_se_M_workersInUse tw_in_M tw_co_M_workersInUse rfl rfl th_M_workersInUse ⟨Nat.le_of_ble_eq_true rfl, Nat.le_of_ble_eq_true rfl⟩) hK hP rfl hl.1 rfl (by decide) dd_M_mayStart_69 ⟨Nat.zero_le _, Nat.zero_le _⟩ ?_
            refine lv_aload_n hx hb dd_M_mayStart_72 rfl (lv_at hl 0 rfl) ?_
            refine va_get (D := D) (ci := 4) (v := .int (nI (N 0 0))) (C := rn_M) (T := ft_M) (N := 19) hx hb hts tw_fs_M hown hK hP 0 rfl rfl 0 (by decide) (hts _ tw_fl_M_58) (fun _ h9 => h9) rfl dd_M_mayStart_73 ?_
            refine bq_lt (tgt := 81) hx hb (Nat.lt_of_le_of_lt (Nat.le_trans (sp_c_le _ _) hB_6) (by decide)) (Nat.lt_of_le_of_lt hB_0 (by decide)) dd_M_mayStart_76 rfl (fun h76 => ?_) (fun h76 => ?_)
            · refine lv_iconst (v := nI 0) hx hb dd_M_mayStart_81 (by decide) ?_
              refine lv_istore_n hx hb dd_M_mayStart_82 rfl hl (by decide) rfl (fun ls hl => ?_)
              have hl : lv_has ls 3 [(2, .int (nI 0)), (0, .ref (ra 0)), (1, .int (nI t))] := hl
              exact lp (N 1 0) 0 ls (by omega) rfl (by simp [sp_m, h7, h21, h32, h56, h65, h76, Nat.not_le.mpr h76]) (lv_sub hl [1, 2, 0] rfl)
            · refine lv_iconst (v := bd_b false) hx hb dd_M_mayStart_79 (by decide) ?_
              exact W.zret (ty := .boolean) hx hb hr (bd_b_nar _) (fun tt htt hWW => ⟨_, rfl, (by simp [sp_m, h7, h21, h32, h56, h65, h76, Nat.not_lt.mpr h76]), htt⟩) (fun _ h => by cases h) dd_M_mayStart_80
      · refine lv_aload_n hx hb dd_M_mayStart_35 rfl (lv_at hl 0 rfl) ?_
        refine lv_aload_n hx hb dd_M_mayStart_36 rfl (lv_at hl 0 rfl) ?_
        refine va_get (D := D) (ci := 4) (v := .ref (ra 7)) (C := rn_M) (T := ft_M) (N := 19) hx hb hts tw_fs_M hown hK hP 0 rfl rfl 7 (by decide) (hts _ tw_fl_M_26) (fun _ h9 => h9) rfl dd_M_mayStart_37 ?_
        refine lv_iload_n hx hb dd_M_mayStart_40 rfl (lv_at hl 1 rfl) ?_
        refine bq_iald hx hb hK hP 5 4 rfl rfl ht2 (by decide) dd_M_mayStart_41 ?_
        refine rf_calli (As := [.int (nI (N 7 t))]) (rest := []) (v := nI (sp_p N (N 7 t))) ⟨hx, hb, hml, hown, hts⟩ (rc_passing l D ra ca N O Z B hB (N 7 t) (Nat.lt_trans (hB_7 t) (by decide))) (bg_cwV 1 hts tw_ml_M_72 tw_im_M_passing tw_se_M_passing tw_in_M tw_co_M_passing rfl rfl th_M_passing ⟨Nat.le_of_ble_eq_true rfl, Nat.le_of_ble_eq_true rfl⟩) hK hP rfl hl.1 rfl (by decide) dd_M_mayStart_42 ⟨Nat.zero_le _, Nat.zero_le _⟩ ?_
        refine bq_nle (tgt := 50) hx hb (Nat.lt_of_le_of_lt (Nat.le_trans (sp_c_le _ _) hB_6) (by decide)) dd_M_mayStart_45 rfl (fun h45 => ?_) (fun h45 => ?_)
        · refine lv_aload_n hx hb dd_M_mayStart_50 rfl (lv_at hl 0 rfl) ?_
          refine va_get (D := D) (ci := 4) (v := .ref (ra 15)) (C := rn_M) (T := ft_M) (N := 19) hx hb hts tw_fs_M hown hK hP 0 rfl rfl 15 (by decide) (hts _ tw_fl_M_52) (fun _ h9 => h9) rfl dd_M_mayStart_51 ?_
          refine lv_iload_n hx hb dd_M_mayStart_54 rfl (lv_at hl 1 rfl) ?_
          refine bq_zald hx hb hK hP 13 12 rfl rfl ht2 (by decide) dd_M_mayStart_55 ?_
          refine bq_zne (tgt := 81) hx hb dd_M_mayStart_56 rfl (fun h56 => ?_) (fun h56 => ?_)
          · refine lv_iconst (v := nI 0) hx hb dd_M_mayStart_81 (by decide) ?_
            refine lv_istore_n hx hb dd_M_mayStart_82 rfl hl (by decide) rfl (fun ls hl => ?_)
            have hl : lv_has ls 3 [(2, .int (nI 0)), (0, .ref (ra 0)), (1, .int (nI t))] := hl
            exact lp (N 1 0) 0 ls (by omega) rfl (by simp [sp_m, h7, h21, h32, h45, h56]) (lv_sub hl [1, 2, 0] rfl)
          · refine lv_aload_n hx hb dd_M_mayStart_59 rfl (lv_at hl 0 rfl) ?_
            refine va_get (D := D) (ci := 4) (v := .ref (ra 9)) (C := rn_M) (T := ft_M) (N := 19) hx hb hts tw_fs_M hown hK hP 0 rfl rfl 9 (by decide) (hts _ tw_fl_M_32) (fun _ h9 => h9) rfl dd_M_mayStart_60 ?_
            refine lv_iload_n hx hb dd_M_mayStart_63 rfl (lv_at hl 1 rfl) ?_
            refine bq_iald hx hb hK hP 7 6 rfl rfl ht2 (by decide) dd_M_mayStart_64 ?_
            refine bq_oge (tgt := 81) hx hb (fun k hk => Nat.lt_trans (hB_9 _ k hk) (by decide)) dd_M_mayStart_65 rfl (fun h65 => ?_) (fun h65 => ?_)
            · refine lv_iconst (v := nI 0) hx hb dd_M_mayStart_81 (by decide) ?_
              refine lv_istore_n hx hb dd_M_mayStart_82 rfl hl (by decide) rfl (fun ls hl => ?_)
              have hl : lv_has ls 3 [(2, .int (nI 0)), (0, .ref (ra 0)), (1, .int (nI t))] := hl
              exact lp (N 1 0) 0 ls (by omega) rfl (by simp [sp_m, h7, h21, h32, h45, h56, h65]) (lv_sub hl [1, 2, 0] rfl)
            · refine lv_aload_n hx hb dd_M_mayStart_68 rfl (lv_at hl 0 rfl) ?_
              refine rf_calli (As := []) (rest := []) (v := nI (sp_w N O)) ⟨hx, hb, hml, hown, hts⟩ (rc_workersInUse l D ra ca N O Z B hB) (bg_cwV 0 hts tw_ml_M_82 tw_im_M_workersInUse tw_se_M_workersInUse tw_in_M tw_co_M_workersInUse rfl rfl th_M_workersInUse ⟨Nat.le_of_ble_eq_true rfl, Nat.le_of_ble_eq_true rfl⟩) hK hP rfl hl.1 rfl (by decide) dd_M_mayStart_69 ⟨Nat.zero_le _, Nat.zero_le _⟩ ?_
              refine lv_aload_n hx hb dd_M_mayStart_72 rfl (lv_at hl 0 rfl) ?_
              refine va_get (D := D) (ci := 4) (v := .int (nI (N 0 0))) (C := rn_M) (T := ft_M) (N := 19) hx hb hts tw_fs_M hown hK hP 0 rfl rfl 0 (by decide) (hts _ tw_fl_M_58) (fun _ h9 => h9) rfl dd_M_mayStart_73 ?_
              refine bq_lt (tgt := 81) hx hb (Nat.lt_of_le_of_lt (Nat.le_trans (sp_c_le _ _) hB_6) (by decide)) (Nat.lt_of_le_of_lt hB_0 (by decide)) dd_M_mayStart_76 rfl (fun h76 => ?_) (fun h76 => ?_)
              · refine lv_iconst (v := nI 0) hx hb dd_M_mayStart_81 (by decide) ?_
                refine lv_istore_n hx hb dd_M_mayStart_82 rfl hl (by decide) rfl (fun ls hl => ?_)
                have hl : lv_has ls 3 [(2, .int (nI 0)), (0, .ref (ra 0)), (1, .int (nI t))] := hl
                exact lp (N 1 0) 0 ls (by omega) rfl (by simp [sp_m, h7, h21, h32, h45, h56, h65, h76, Nat.not_le.mpr h76]) (lv_sub hl [1, 2, 0] rfl)
              · refine lv_iconst (v := bd_b false) hx hb dd_M_mayStart_79 (by decide) ?_
                exact W.zret (ty := .boolean) hx hb hr (bd_b_nar _) (fun tt htt hWW => ⟨_, rfl, (by simp [sp_m, h7, h21, h32, h45, h56, h65, h76, Nat.not_lt.mpr h76]), htt⟩) (fun _ h => by cases h) dd_M_mayStart_80
        · refine lv_iconst (v := bd_b false) hx hb dd_M_mayStart_48 (by decide) ?_
          exact W.zret (ty := .boolean) hx hb hr (bd_b_nar _) (fun tt htt hWW => ⟨_, rfl, (by simp [sp_m, h7, h21, h32, h45, Nat.not_le.mpr h45]), htt⟩) (fun _ h => by cases h) dd_M_mayStart_49
    · refine lv_iconst (v := bd_b false) hx hb dd_M_mayStart_24 (by decide) ?_
      exact W.zret (ty := .boolean) hx hb hr (bd_b_nar _) (fun tt htt hWW => ⟨_, rfl, (by simp [sp_m, h7, h21]), htt⟩) (fun _ h => by cases h) dd_M_mayStart_25

set_option maxHeartbeats 4000000 in
set_option maxRecDepth 100000 in
theorem rc_countOf (l : Launch) (D : va_G) (ra : Nat → Nat) (ca : Nat → ClassId) (N : sp_N) (O : sp_O) (Z : sp_Z) (B : sp_B) (hB : sp_Bd N O) (g : Nat) (hg : g < 4) : Met l my_M_countOf (Cond.code my_M_countOf cd_M_countOf 4 (some .int) :: bg_tbl) ({ frames := 0, cells := 0, slots := 0, locals := 0 }) (va_Pc [.ref (ra 0), .int (nI g)] (rf_U D ra ca N O Z B)) (vp_Si (fun r => r = nI (sp_g N O g))) 0 0 (fun _ => False) := by
  refine Met.ofW (cc := cd_M_countOf) (maxL := 4) (ret := (some .int)) (by decide) rfl ?_
  intro p e s m args below meth c s₁ BB hml hv
  obtain ⟨rfl, hP, hK⟩ := hv
  have hx := BB.exec
  have hb := BB.bytes
  have hr := BB.returns
  have hts : ∀ w ∈ bg_tbl, w.before ([.ref (ra 0), .int (nI g)] : List Value).toArray s = true := fun w h => atoms_spec (ws := (Cond.code my_M_countOf cd_M_countOf 4 (some .int) :: bg_tbl)) BB.pre w (List.mem_cons_of_mem _ h)
  have hown : s.vm.findClass rn_M = some m.cls := findClass_of_methodNamed BB.named
  have hlocks := BB.notSynchronized
  obtain ⟨hB_0, hB_1, hB_2, hB_3, hB_4, hB_5, hB_6, hB_7, hB_8, hB_9, hB_10, hB_11, hB_12, hB_17⟩ := id hB
  have hl := lv_entry ([.ref (ra 0), .int (nI g)]) (n := 4) (Nat.le_of_ble_eq_true rfl)
  rw [lg_entry_eq]
  generalize (lg_sl ([.ref (ra 0), .int (nI g)]) ++ List.replicate (4 - (lg_sl ([.ref (ra 0), .int (nI g)])).length) Slot.unset).toArray = ls at hl ⊢
  have hl : lv_has ls 4 [(0, .ref (ra 0)), (1, .int (nI g))] := hl
  have lp : ∀ (n : Nat) (t : Nat) (ls : Array Slot), (n + t = N 6 0) →  lv_has ls 4 [(0, .ref (ra 0)), (1, .int (nI g)), (2, .int (nI (N 17 g + sp_c (fun t => decide (O 10 t = some g) && decide (N 8 t < 5)) t))), (3, .int (nI t))] → W p l e (headSpec (Cond.code my_M_countOf cd_M_countOf 4 (some .int) :: bg_tbl) ({ frames := 0, cells := 0, slots := 0, locals := 0 })).room s m ([.ref (ra 0), .int (nI g)] : List Value).toArray below meth c s.heap [] 0 0 (MQ below (vp_Si (fun r => r = nI (sp_g N O g))) ([.ref (ra 0), .int (nI g)] : List Value).toArray s 0 0 (fun _ => False)) (F0 m 9 ls []) := by
    intro n
    induction n with
    | zero =>
      intro t ls hk hl
      refine lv_iload_n hx hb dd_M_countOf_9 rfl (lv_at hl 3 rfl) ?_
      refine lv_aload_n hx hb dd_M_countOf_10 rfl (lv_at hl 0 rfl) ?_
      refine va_get (D := D) (ci := 4) (v := .int (nI (N 6 0))) (C := rn_M) (T := ft_M) (N := 19) hx hb hts tw_fs_M hown hK hP 0 rfl rfl 6 (by decide) (hts _ tw_fl_M_61) (fun _ h9 => h9) rfl dd_M_countOf_11 ?_
      refine bq_ge (tgt := 47) hx hb (by omega) (Nat.lt_of_le_of_lt hB_6 (by decide)) dd_M_countOf_14 rfl (fun h14 => ?_) (fun h14 => ?_)
      · refine lv_iload_n hx hb dd_M_countOf_47 rfl (lv_at hl 2 rfl) ?_
        exact W.iret hx hb hr (fun tt htt hWW => ⟨_, rfl, (by rw [show t = N 6 0 by omega]; rfl), htt⟩) (fun _ h => by cases h) dd_M_countOf_48
      · exact absurd h14 (by omega)
    | succ n ih =>
      intro t ls hk hl
      refine lv_iload_n hx hb dd_M_countOf_9 rfl (lv_at hl 3 rfl) ?_
      refine lv_aload_n hx hb dd_M_countOf_10 rfl (lv_at hl 0 rfl) ?_
      refine va_get (D := D) (ci := 4) (v := .int (nI (N 6 0))) (C := rn_M) (T := ft_M) (N := 19) hx hb hts tw_fs_M hown hK hP 0 rfl rfl 6 (by decide) (hts _ tw_fl_M_61) (fun _ h9 => h9) rfl dd_M_countOf_11 ?_
      refine bq_ge (tgt := 47) hx hb (by omega) (Nat.lt_of_le_of_lt hB_6 (by decide)) dd_M_countOf_14 rfl (fun h14 => ?_) (fun h14 => ?_)
      · exact absurd h14 (by omega)
      · refine lv_aload_n hx hb dd_M_countOf_17 rfl (lv_at hl 0 rfl) ?_
        refine va_get (D := D) (ci := 4) (v := .ref (ra 10)) (C := rn_M) (T := ft_M) (N := 19) hx hb hts tw_fs_M hown hK hP 0 rfl rfl 10 (by decide) (hts _ tw_fl_M_35) (fun _ h9 => h9) rfl dd_M_countOf_18 ?_
        refine lv_iload_n hx hb dd_M_countOf_21 rfl (lv_at hl 3 rfl) ?_
        refine bq_iald hx hb hK hP 8 7 rfl rfl (by omega) (by decide) dd_M_countOf_22 ?_
        refine lv_iload_n hx hb dd_M_countOf_23 rfl (lv_at hl 1 rfl) ?_
        refine bq_one (tgt := 41) hx hb (fun k hk => Nat.lt_trans (hB_10 _ k hk) (by decide)) (by omega) dd_M_countOf_24 rfl (fun h24 => ?_) (fun h24 => ?_)
        · refine lv_iinc (k := 3) (v := nI (t + 1)) hx hb dd_M_countOf_41 hl rfl (nI_1 _) (by decide) rfl (fun ls hl => ?_)
          have hl : lv_has ls 4 [(3, .int (nI (t + 1))), (0, .ref (ra 0)), (1, .int (nI g)), (2, .int (nI (N 17 g + sp_c (fun t => decide (O 10 t = some g) && decide (N 8 t < 5)) t)))] := hl
          refine lv_goto (tgt := 9) hx hb dd_M_countOf_44 rfl ?_
          have e9 : N 17 g + sp_c (fun t => decide (O 10 t = some g) && decide (N 8 t < 5)) (t + 1) = N 17 g + sp_c (fun t => decide (O 10 t = some g) && decide (N 8 t < 5)) t := by simp [sp_c, h14, Nat.not_le.mpr h14, h24]
          exact ih (t + 1) ls (by omega) (by rw [e9]; exact lv_sub hl [1, 2, 3, 0] rfl)
        · refine lv_aload_n hx hb dd_M_countOf_27 rfl (lv_at hl 0 rfl) ?_
          refine va_get (D := D) (ci := 4) (v := .ref (ra 8)) (C := rn_M) (T := ft_M) (N := 19) hx hb hts tw_fs_M hown hK hP 0 rfl rfl 8 (by decide) (hts _ tw_fl_M_29) (fun _ h9 => h9) rfl dd_M_countOf_28 ?_
          refine lv_iload_n hx hb dd_M_countOf_31 rfl (lv_at hl 3 rfl) ?_
          refine bq_iald hx hb hK hP 6 5 rfl rfl (by omega) (by decide) dd_M_countOf_32 ?_
          refine lv_iconst (v := nI 5) hx hb dd_M_countOf_33 (by decide) ?_
          refine bq_ge (tgt := 41) hx hb (Nat.lt_trans (hB_8 t) (by decide)) (by decide) dd_M_countOf_34 rfl (fun h34 => ?_) (fun h34 => ?_)
          · refine lv_iinc (k := 3) (v := nI (t + 1)) hx hb dd_M_countOf_41 hl rfl (nI_1 _) (by decide) rfl (fun ls hl => ?_)
            have hl : lv_has ls 4 [(3, .int (nI (t + 1))), (0, .ref (ra 0)), (1, .int (nI g)), (2, .int (nI (N 17 g + sp_c (fun t => decide (O 10 t = some g) && decide (N 8 t < 5)) t)))] := hl
            refine lv_goto (tgt := 9) hx hb dd_M_countOf_44 rfl ?_
            have e9 : N 17 g + sp_c (fun t => decide (O 10 t = some g) && decide (N 8 t < 5)) (t + 1) = N 17 g + sp_c (fun t => decide (O 10 t = some g) && decide (N 8 t < 5)) t := by simp [sp_c, h14, Nat.not_le.mpr h14, h24, h34, Nat.not_lt.mpr h34]
            exact ih (t + 1) ls (by omega) (by rw [e9]; exact lv_sub hl [1, 2, 3, 0] rfl)
          · refine lv_iload_n hx hb dd_M_countOf_37 rfl (lv_at hl 2 rfl) ?_
            refine lv_iconst (v := nI 1) hx hb dd_M_countOf_38 (by decide) ?_
            refine lv_iadd hx hb dd_M_countOf_39 ?_
            rw [nI_add]
            refine lv_istore_n hx hb dd_M_countOf_40 rfl hl (by decide) rfl (fun ls hl => ?_)
            have hl : lv_has ls 4 [(2, .int (nI ((N 17 g + sp_c (fun t => decide (O 10 t = some g) && decide (N 8 t < 5)) t) + 1))), (0, .ref (ra 0)), (1, .int (nI g)), (3, .int (nI t))] := hl
            refine lv_iinc (k := 3) (v := nI (t + 1)) hx hb dd_M_countOf_41 hl rfl (nI_1 _) (by decide) rfl (fun ls hl => ?_)
            have hl : lv_has ls 4 [(3, .int (nI (t + 1))), (2, .int (nI ((N 17 g + sp_c (fun t => decide (O 10 t = some g) && decide (N 8 t < 5)) t) + 1))), (0, .ref (ra 0)), (1, .int (nI g))] := hl
            refine lv_goto (tgt := 9) hx hb dd_M_countOf_44 rfl ?_
            have e8 : sp_c (fun t => decide (O 10 t = some g) && decide (N 8 t < 5)) (t + 1) = sp_c (fun t => decide (O 10 t = some g) && decide (N 8 t < 5)) t + 1 := by simp [sp_c, h14, Nat.not_le.mpr h14, h24, h34, Nat.not_le.mpr h34]
            have e9 : N 17 g + sp_c (fun t => decide (O 10 t = some g) && decide (N 8 t < 5)) (t + 1) = (N 17 g + sp_c (fun t => decide (O 10 t = some g) && decide (N 8 t < 5)) t) + 1 := by omega
            exact ih (t + 1) ls (by omega) (by rw [e9]; exact lv_sub hl [2, 3, 1, 0] rfl)
  refine lv_aload_n hx hb dd_M_countOf_0 rfl (lv_at hl 0 rfl) ?_
  refine va_get (D := D) (ci := 4) (v := .ref (ra 17)) (C := rn_M) (T := ft_M) (N := 19) hx hb hts tw_fs_M hown hK hP 0 rfl rfl 17 (by decide) (hts _ tw_fl_M_55) (fun _ h9 => h9) rfl dd_M_countOf_1 ?_
  refine lv_iload_n hx hb dd_M_countOf_4 rfl (lv_at hl 1 rfl) ?_
  refine bq_iald hx hb hK hP 14 13 rfl rfl hg (by decide) dd_M_countOf_5 ?_
  refine lv_istore_n hx hb dd_M_countOf_6 rfl hl (by decide) rfl (fun ls hl => ?_)
  have hl : lv_has ls 4 [(2, .int (nI (N 17 g))), (0, .ref (ra 0)), (1, .int (nI g))] := hl
  refine lv_iconst (v := nI 0) hx hb dd_M_countOf_7 (by decide) ?_
  refine lv_istore_n hx hb dd_M_countOf_8 rfl hl (by decide) rfl (fun ls hl => ?_)
  have hl : lv_has ls 4 [(3, .int (nI 0)), (2, .int (nI (N 17 g))), (0, .ref (ra 0)), (1, .int (nI g))] := hl
  exact lp (N 6 0) 0 ls (by omega) (lv_sub hl [2, 3, 1, 0] rfl)
end
section
/-! Part 13: the reference: chosen, due, queued, through, peak, count, ready, inTheWay, state. By wip/gen/gen_ref3.py. -/
theorem sp_a_s {P : Nat → Bool} {n : Nat} (h : sp_a P n = false) (hp : P n = false) : sp_a P (n + 1) = false := by
  rw [sp_a, h, hp]
  rfl
set_option maxHeartbeats 4000000 in
set_option maxRecDepth 100000 in
theorem rc_chosen (l : Launch) (D : va_G) (ra : Nat → Nat) (ca : Nat → ClassId) (N : sp_N) (O : sp_O) (Z : sp_Z) (B : sp_B) (hB : sp_Bd N O)  : Met l my_M_chosen (Cond.code my_M_chosen cd_M_chosen 5 (some .int) :: bg_tbl) ({ frames := 4, cells := 0, slots := 0, locals := 92 }) (va_Pc [.ref (ra 0)] (rf_U D ra ca N O Z B)) (vp_Si (fun r => r = bd_o (sp_h N O B (N 6 0)))) 0 0 (fun _ => False) := by
  refine Met.ofW (cc := cd_M_chosen) (maxL := 5) (ret := (some .int)) (by decide) rfl ?_
  intro p e s m args below meth c s₁ BB hml hv
  obtain ⟨rfl, hP, hK⟩ := hv
  have hx := BB.exec
  have hb := BB.bytes
  have hr := BB.returns
  have hts : ∀ w ∈ bg_tbl, w.before ([.ref (ra 0)] : List Value).toArray s = true := fun w h => atoms_spec (ws := (Cond.code my_M_chosen cd_M_chosen 5 (some .int) :: bg_tbl)) BB.pre w (List.mem_cons_of_mem _ h)
  have hown : s.vm.findClass rn_M = some m.cls := findClass_of_methodNamed BB.named
  have hlocks := BB.notSynchronized
  obtain ⟨hB_0, hB_1, hB_2, hB_3, hB_4, hB_5, hB_6, hB_7, hB_8, hB_9, hB_10, hB_11, hB_12, hB_17⟩ := id hB
  have hl := lv_entry ([.ref (ra 0)]) (n := 5) (Nat.le_of_ble_eq_true rfl)
  rw [lg_entry_eq]
  generalize (lg_sl ([.ref (ra 0)]) ++ List.replicate (5 - (lg_sl ([.ref (ra 0)])).length) Slot.unset).toArray = ls at hl ⊢
  have hl : lv_has ls 5 [(0, .ref (ra 0))] := hl
  have lp : ∀ (n : Nat) (t : Nat) (ls : Array Slot), (n + t = N 6 0) →  lv_has ls 5 [(0, .ref (ra 0)), (1, .int (bd_o (sp_h N O B t))), (2, .int (sp_rk N (sp_h N O B t))), (3, .int (nI t))] → W p l e (headSpec (Cond.code my_M_chosen cd_M_chosen 5 (some .int) :: bg_tbl) ({ frames := 4, cells := 0, slots := 0, locals := 92 })).room s m ([.ref (ra 0)] : List Value).toArray below meth c s.heap [] 0 0 (MQ below (vp_Si (fun r => r = bd_o (sp_h N O B (N 6 0)))) ([.ref (ra 0)] : List Value).toArray s 0 0 (fun _ => False)) (F0 m 6 ls []) := by
    intro n
    induction n with
    | zero =>
      intro t ls hk hl
      refine lv_iload_n hx hb dd_M_chosen_6 rfl (lv_at hl 3 rfl) ?_
      refine lv_aload_n hx hb dd_M_chosen_7 rfl (lv_at hl 0 rfl) ?_
      refine va_get (D := D) (ci := 4) (v := .int (nI (N 6 0))) (C := rn_M) (T := ft_M) (N := 19) hx hb hts tw_fs_M hown hK hP 0 rfl rfl 6 (by decide) (hts _ tw_fl_M_61) (fun _ h9 => h9) rfl dd_M_chosen_8 ?_
      refine bq_ge (tgt := 76) hx hb (by omega) (Nat.lt_of_le_of_lt hB_6 (by decide)) dd_M_chosen_11 rfl (fun h11 => ?_) (fun h11 => ?_)
      · refine lv_iload_n hx hb dd_M_chosen_76 rfl (lv_at hl 1 rfl) ?_
        exact W.iret hx hb hr (fun tt htt hWW => ⟨_, rfl, (by rw [show t = N 6 0 by omega]), htt⟩) (fun _ h => by cases h) dd_M_chosen_77
      · exact absurd h11 (by omega)
    | succ n ih =>
      intro t ls hk hl
      refine lv_iload_n hx hb dd_M_chosen_6 rfl (lv_at hl 3 rfl) ?_
      refine lv_aload_n hx hb dd_M_chosen_7 rfl (lv_at hl 0 rfl) ?_
      refine va_get (D := D) (ci := 4) (v := .int (nI (N 6 0))) (C := rn_M) (T := ft_M) (N := 19) hx hb hts tw_fs_M hown hK hP 0 rfl rfl 6 (by decide) (hts _ tw_fl_M_61) (fun _ h9 => h9) rfl dd_M_chosen_8 ?_
      refine bq_ge (tgt := 76) hx hb (by omega) (Nat.lt_of_le_of_lt hB_6 (by decide)) dd_M_chosen_11 rfl (fun h11 => ?_) (fun h11 => ?_)
      · exact absurd h11 (by omega)
      · refine lv_aload_n hx hb dd_M_chosen_14 rfl (lv_at hl 0 rfl) ?_
        refine lv_iload_n hx hb dd_M_chosen_15 rfl (lv_at hl 3 rfl) ?_
        refine rf_calli (As := [.int (nI t)]) (rest := []) (v := bd_b (sp_m N O B t)) ⟨hx, hb, hml, hown, hts⟩ (rc_mayStart l D ra ca N O Z B hB t (by omega)) (bg_cwV 1 hts tw_ml_M_122 tw_im_M_mayStart tw_se_M_mayStart tw_in_M tw_co_M_mayStart rfl rfl th_M_mayStart ⟨Nat.le_of_ble_eq_true rfl, Nat.le_of_ble_eq_true rfl⟩) hK hP rfl hl.1 rfl (by decide) dd_M_chosen_16 ⟨Nat.zero_le _, Nat.zero_le _⟩ ?_
        refine bq_zeq (tgt := 70) hx hb dd_M_chosen_19 rfl (fun h19 => ?_) (fun h19 => ?_)
        · refine lv_iinc (k := 3) (v := nI (t + 1)) hx hb dd_M_chosen_70 hl rfl (nI_1 _) (by decide) rfl (fun ls hl => ?_)
          have hl : lv_has ls 5 [(3, .int (nI (t + 1))), (0, .ref (ra 0)), (1, .int (bd_o (sp_h N O B t))), (2, .int (sp_rk N (sp_h N O B t)))] := hl
          refine lv_goto (tgt := 6) hx hb dd_M_chosen_73 rfl ?_
          have e9 : sp_h N O B (t + 1) = sp_h N O B t := by simp [sp_h, sp_e, h11, Nat.not_le.mpr h11, h19]
          exact ih (t + 1) ls (by omega) (by rw [e9]; exact lv_sub hl [1, 2, 3, 0] rfl)
        · refine lv_aload_n hx hb dd_M_chosen_22 rfl (lv_at hl 0 rfl) ?_
          refine lv_aload_n hx hb dd_M_chosen_23 rfl (lv_at hl 0 rfl) ?_
          refine va_get (D := D) (ci := 4) (v := .ref (ra 7)) (C := rn_M) (T := ft_M) (N := 19) hx hb hts tw_fs_M hown hK hP 0 rfl rfl 7 (by decide) (hts _ tw_fl_M_26) (fun _ h9 => h9) rfl dd_M_chosen_24 ?_
          refine lv_iload_n hx hb dd_M_chosen_27 rfl (lv_at hl 3 rfl) ?_
          refine bq_iald hx hb hK hP 5 4 rfl rfl (by omega) (by decide) dd_M_chosen_28 ?_
          refine rf_calli (As := [.int (nI (N 7 t))]) (rest := []) (v := nI (sp_r N (N 7 t))) ⟨hx, hb, hml, hown, hts⟩ (rc_root l D ra ca N O Z B hB (N 7 t) (hB_7 t)) (bg_cwV 1 hts tw_ml_M_125 tw_im_M_root tw_se_M_root tw_in_M tw_co_M_root rfl rfl th_M_root ⟨Nat.le_of_ble_eq_true rfl, Nat.le_of_ble_eq_true rfl⟩) hK hP rfl hl.1 rfl (by decide) dd_M_chosen_29 ⟨Nat.zero_le _, Nat.zero_le _⟩ ?_
          refine lv_istore hx hb dd_M_chosen_32 hl (by decide) rfl (fun ls hl => ?_)
          have hl : lv_has ls 5 [(4, .int (nI (sp_r N (N 7 t)))), (0, .ref (ra 0)), (1, .int (bd_o (sp_h N O B t))), (2, .int (sp_rk N (sp_h N O B t))), (3, .int (nI t))] := hl
          refine lv_iload_n hx hb dd_M_chosen_34 rfl (lv_at hl 2 rfl) ?_
          refine bq_olt (tgt := 65) hx hb (fun k hk => by have h9 := sp_h_lt hk; omega) dd_M_chosen_35 rfl (fun h35 => ?_) (fun h35 => ?_)
          · refine lv_iload_n hx hb dd_M_chosen_65 rfl (lv_at hl 4 rfl) ?_
            refine lv_istore_n hx hb dd_M_chosen_66 rfl hl (by decide) rfl (fun ls hl => ?_)
            have hl : lv_has ls 5 [(1, .int (nI t)), (4, .int (nI (sp_r N (N 7 t)))), (0, .ref (ra 0)), (2, .int (sp_rk N (sp_h N O B t))), (3, .int (nI t))] := hl
            refine lv_iload hx hb dd_M_chosen_67 (lv_at hl 1 rfl) ?_
            refine lv_istore_n hx hb dd_M_chosen_69 rfl hl (by decide) rfl (fun ls hl => ?_)
            have hl : lv_has ls 5 [(2, .int (nI (sp_r N (N 7 t)))), (1, .int (nI t)), (4, .int (nI (sp_r N (N 7 t)))), (0, .ref (ra 0)), (3, .int (nI t))] := hl
            refine lv_iinc (k := 4) (v := nI (t + 1)) hx hb dd_M_chosen_70 hl rfl (nI_1 _) (by decide) rfl (fun ls hl => ?_)
            have hl : lv_has ls 5 [(3, .int (nI (t + 1))), (2, .int (nI (sp_r N (N 7 t)))), (1, .int (nI t)), (4, .int (nI (sp_r N (N 7 t)))), (0, .ref (ra 0))] := hl
            refine lv_goto (tgt := 6) hx hb dd_M_chosen_73 rfl ?_
            have e9 : sp_h N O B (t + 1) = some t := by simp [sp_h, sp_e, h11, Nat.not_le.mpr h11, h19, h35]
            exact ih (t + 1) ls (by omega) (by rw [e9]; exact lv_sub hl [4, 2, 1, 0] rfl)
          · obtain ⟨b, hb9⟩ := bd_ne h35
            have hbt := sp_h_lt hb9
            have hl : lv_has ls 5 [(4, .int (nI (sp_r N (N 7 t)))), (0, .ref (ra 0)), (1, .int (nI b)), (2, .int (nI (sp_r N (N 7 b)))), (3, .int (nI t))] := by rw [hb9] at hl; exact hl
            refine lv_iload hx hb dd_M_chosen_38 (lv_at hl 0 rfl) ?_
            refine lv_iload_n hx hb dd_M_chosen_40 rfl (lv_at hl 3 rfl) ?_
            refine bq_gt (tgt := 65) hx hb (Nat.lt_trans (sp_r_lt _ _) (by decide)) (Nat.lt_trans (sp_r_lt _ _) (by decide)) dd_M_chosen_41 rfl (fun h41 => ?_) (fun h41 => ?_)
            · refine lv_iload_n hx hb dd_M_chosen_65 rfl (lv_at hl 4 rfl) ?_
              refine lv_istore_n hx hb dd_M_chosen_66 rfl hl (by decide) rfl (fun ls hl => ?_)
              have hl : lv_has ls 5 [(1, .int (nI t)), (4, .int (nI (sp_r N (N 7 t)))), (0, .ref (ra 0)), (2, .int (nI (sp_r N (N 7 b)))), (3, .int (nI t))] := hl
              refine lv_iload hx hb dd_M_chosen_67 (lv_at hl 1 rfl) ?_
              refine lv_istore_n hx hb dd_M_chosen_69 rfl hl (by decide) rfl (fun ls hl => ?_)
              have hl : lv_has ls 5 [(2, .int (nI (sp_r N (N 7 t)))), (1, .int (nI t)), (4, .int (nI (sp_r N (N 7 t)))), (0, .ref (ra 0)), (3, .int (nI t))] := hl
              refine lv_iinc (k := 4) (v := nI (t + 1)) hx hb dd_M_chosen_70 hl rfl (nI_1 _) (by decide) rfl (fun ls hl => ?_)
              have hl : lv_has ls 5 [(3, .int (nI (t + 1))), (2, .int (nI (sp_r N (N 7 t)))), (1, .int (nI t)), (4, .int (nI (sp_r N (N 7 t)))), (0, .ref (ra 0))] := hl
              refine lv_goto (tgt := 6) hx hb dd_M_chosen_73 rfl ?_
              have e9 : sp_h N O B (t + 1) = some t := by simp [sp_h, sp_e, h11, Nat.not_le.mpr h11, h19, hb9, h41, Nat.not_le.mpr h41]
              exact ih (t + 1) ls (by omega) (by rw [e9]; exact lv_sub hl [4, 2, 1, 0] rfl)
            · refine lv_iload hx hb dd_M_chosen_44 (lv_at hl 0 rfl) ?_
              refine lv_iload_n hx hb dd_M_chosen_46 rfl (lv_at hl 3 rfl) ?_
              refine bq_ne (tgt := 70) hx hb (Nat.lt_trans (sp_r_lt _ _) (by decide)) (Nat.lt_trans (sp_r_lt _ _) (by decide)) dd_M_chosen_47 rfl (fun h47 => ?_) (fun h47 => ?_)
              · refine lv_iinc (k := 4) (v := nI (t + 1)) hx hb dd_M_chosen_70 hl rfl (nI_1 _) (by decide) rfl (fun ls hl => ?_)
                have hl : lv_has ls 5 [(3, .int (nI (t + 1))), (4, .int (nI (sp_r N (N 7 t)))), (0, .ref (ra 0)), (1, .int (nI b)), (2, .int (nI (sp_r N (N 7 b))))] := hl
                refine lv_goto (tgt := 6) hx hb dd_M_chosen_73 rfl ?_
                have e9 : sp_h N O B (t + 1) = some b := by simp [sp_h, sp_e, h11, Nat.not_le.mpr h11, h19, hb9, h41, Nat.not_lt.mpr h41, h47]
                exact ih (t + 1) ls (by omega) (by rw [e9]; exact lv_sub hl [2, 3, 4, 0] rfl)
              · refine lv_aload_n hx hb dd_M_chosen_50 rfl (lv_at hl 1 rfl) ?_
                refine va_get (D := D) (ci := 4) (v := .ref (ra 12)) (C := rn_M) (T := ft_M) (N := 19) hx hb hts tw_fs_M hown hK hP 0 rfl rfl 12 (by decide) (hts _ tw_fl_M_41) (fun _ h9 => h9) rfl dd_M_chosen_51 ?_
                refine lv_iload_n hx hb dd_M_chosen_54 rfl (lv_at hl 4 rfl) ?_
                refine bq_iald hx hb hK hP 10 9 rfl rfl (by omega) (by decide) dd_M_chosen_55 ?_
                refine lv_aload_n hx hb dd_M_chosen_56 rfl (lv_at hl 1 rfl) ?_
                refine va_get (D := D) (ci := 4) (v := .ref (ra 12)) (C := rn_M) (T := ft_M) (N := 19) hx hb hts tw_fs_M hown hK hP 0 rfl rfl 12 (by decide) (hts _ tw_fl_M_41) (fun _ h9 => h9) rfl dd_M_chosen_57 ?_
                refine lv_iload_n hx hb dd_M_chosen_60 rfl (lv_at hl 2 rfl) ?_
                refine bq_iald hx hb hK hP 10 9 rfl rfl (by omega) (by decide) dd_M_chosen_61 ?_
                refine bq_ge (tgt := 70) hx hb (hB_12 t) (hB_12 b) dd_M_chosen_62 rfl (fun h62 => ?_) (fun h62 => ?_)
                · refine lv_iinc (k := 4) (v := nI (t + 1)) hx hb dd_M_chosen_70 hl rfl (nI_1 _) (by decide) rfl (fun ls hl => ?_)
                  have hl : lv_has ls 5 [(3, .int (nI (t + 1))), (4, .int (nI (sp_r N (N 7 t)))), (0, .ref (ra 0)), (1, .int (nI b)), (2, .int (nI (sp_r N (N 7 b))))] := hl
                  refine lv_goto (tgt := 6) hx hb dd_M_chosen_73 rfl ?_
                  have e9 : sp_h N O B (t + 1) = some b := by simp [sp_h, sp_e, h11, Nat.not_le.mpr h11, h19, hb9, h41, Nat.not_lt.mpr h41, h47, h62, Nat.not_lt.mpr h62]
                  exact ih (t + 1) ls (by omega) (by rw [e9]; exact lv_sub hl [2, 3, 4, 0] rfl)
                · refine lv_iload_n hx hb dd_M_chosen_65 rfl (lv_at hl 4 rfl) ?_
                  refine lv_istore_n hx hb dd_M_chosen_66 rfl hl (by decide) rfl (fun ls hl => ?_)
                  have hl : lv_has ls 5 [(1, .int (nI t)), (4, .int (nI (sp_r N (N 7 t)))), (0, .ref (ra 0)), (2, .int (nI (sp_r N (N 7 b)))), (3, .int (nI t))] := hl
                  refine lv_iload hx hb dd_M_chosen_67 (lv_at hl 1 rfl) ?_
                  refine lv_istore_n hx hb dd_M_chosen_69 rfl hl (by decide) rfl (fun ls hl => ?_)
                  have hl : lv_has ls 5 [(2, .int (nI (sp_r N (N 7 t)))), (1, .int (nI t)), (4, .int (nI (sp_r N (N 7 t)))), (0, .ref (ra 0)), (3, .int (nI t))] := hl
                  refine lv_iinc (k := 4) (v := nI (t + 1)) hx hb dd_M_chosen_70 hl rfl (nI_1 _) (by decide) rfl (fun ls hl => ?_)
                  have hl : lv_has ls 5 [(3, .int (nI (t + 1))), (2, .int (nI (sp_r N (N 7 t)))), (1, .int (nI t)), (4, .int (nI (sp_r N (N 7 t)))), (0, .ref (ra 0))] := hl
                  refine lv_goto (tgt := 6) hx hb dd_M_chosen_73 rfl ?_
                  have e9 : sp_h N O B (t + 1) = some t := by simp [sp_h, sp_e, h11, Nat.not_le.mpr h11, h19, hb9, h41, Nat.not_lt.mpr h41, h47, h62, Nat.not_le.mpr h62]
                  exact ih (t + 1) ls (by omega) (by rw [e9]; exact lv_sub hl [4, 2, 1, 0] rfl)
  refine lv_iconst (v := bd_o none) hx hb dd_M_chosen_0 (by decide) ?_
  refine lv_istore_n hx hb dd_M_chosen_1 rfl hl (by decide) rfl (fun ls hl => ?_)
  have hl : lv_has ls 5 [(1, .int (bd_o none)), (0, .ref (ra 0))] := hl
  refine lv_iconst (v := -1) hx hb dd_M_chosen_2 (by decide) ?_
  refine lv_istore_n hx hb dd_M_chosen_3 rfl hl (by decide) rfl (fun ls hl => ?_)
  have hl : lv_has ls 5 [(2, .int (-1)), (1, .int (bd_o none)), (0, .ref (ra 0))] := hl
  refine lv_iconst (v := nI 0) hx hb dd_M_chosen_4 (by decide) ?_
  refine lv_istore_n hx hb dd_M_chosen_5 rfl hl (by decide) rfl (fun ls hl => ?_)
  have hl : lv_has ls 5 [(3, .int (nI 0)), (2, .int (-1)), (1, .int (bd_o none)), (0, .ref (ra 0))] := hl
  exact lp (N 6 0) 0 ls (by omega) (lv_sub hl [3, 2, 1, 0] rfl)

set_option maxHeartbeats 4000000 in
set_option maxRecDepth 100000 in
theorem rc_due (l : Launch) (D : va_G) (ra : Nat → Nat) (ca : Nat → ClassId) (N : sp_N) (O : sp_O) (Z : sp_Z) (B : sp_B) (hB : sp_Bd N O)  : Met l my_M_due (Cond.code my_M_due cd_M_due 3 (some .int) :: bg_tbl) ({ frames := 0, cells := 0, slots := 0, locals := 0 }) (va_Pc [.ref (ra 0)] (rf_U D ra ca N O Z B)) (vp_Si (fun r => r = bd_o (sp_d N Z (N 6 0)))) 0 0 (fun _ => False) := by
  refine Met.ofW (cc := cd_M_due) (maxL := 3) (ret := (some .int)) (by decide) rfl ?_
  intro p e s m args below meth c s₁ BB hml hv
  obtain ⟨rfl, hP, hK⟩ := hv
  have hx := BB.exec
  have hb := BB.bytes
  have hr := BB.returns
  have hts : ∀ w ∈ bg_tbl, w.before ([.ref (ra 0)] : List Value).toArray s = true := fun w h => atoms_spec (ws := (Cond.code my_M_due cd_M_due 3 (some .int) :: bg_tbl)) BB.pre w (List.mem_cons_of_mem _ h)
  have hown : s.vm.findClass rn_M = some m.cls := findClass_of_methodNamed BB.named
  have hlocks := BB.notSynchronized
  obtain ⟨hB_0, hB_1, hB_2, hB_3, hB_4, hB_5, hB_6, hB_7, hB_8, hB_9, hB_10, hB_11, hB_12, hB_17⟩ := id hB
  have hl := lv_entry ([.ref (ra 0)]) (n := 3) (Nat.le_of_ble_eq_true rfl)
  rw [lg_entry_eq]
  generalize (lg_sl ([.ref (ra 0)]) ++ List.replicate (3 - (lg_sl ([.ref (ra 0)])).length) Slot.unset).toArray = ls at hl ⊢
  have hl : lv_has ls 3 [(0, .ref (ra 0))] := hl
  have lp : ∀ (n : Nat) (t : Nat) (ls : Array Slot), (n + t = N 6 0) →  lv_has ls 3 [(0, .ref (ra 0)), (1, .int (bd_o (sp_d N Z t))), (2, .int (nI t))] → W p l e (headSpec (Cond.code my_M_due cd_M_due 3 (some .int) :: bg_tbl) ({ frames := 0, cells := 0, slots := 0, locals := 0 })).room s m ([.ref (ra 0)] : List Value).toArray below meth c s.heap [] 0 0 (MQ below (vp_Si (fun r => r = bd_o (sp_d N Z (N 6 0)))) ([.ref (ra 0)] : List Value).toArray s 0 0 (fun _ => False)) (F0 m 4 ls []) := by
    intro n
    induction n with
    | zero =>
      intro t ls hk hl
      refine lv_iload_n hx hb dd_M_due_4 rfl (lv_at hl 2 rfl) ?_
      refine lv_aload_n hx hb dd_M_due_5 rfl (lv_at hl 0 rfl) ?_
      refine va_get (D := D) (ci := 4) (v := .int (nI (N 6 0))) (C := rn_M) (T := ft_M) (N := 19) hx hb hts tw_fs_M hown hK hP 0 rfl rfl 6 (by decide) (hts _ tw_fl_M_61) (fun _ h9 => h9) rfl dd_M_due_6 ?_
      refine bq_ge (tgt := 64) hx hb (by omega) (Nat.lt_of_le_of_lt hB_6 (by decide)) dd_M_due_9 rfl (fun h9 => ?_) (fun h9 => ?_)
      · refine lv_iload_n hx hb dd_M_due_64 rfl (lv_at hl 1 rfl) ?_
        exact W.iret hx hb hr (fun tt htt hWW => ⟨_, rfl, (by rw [show t = N 6 0 by omega]), htt⟩) (fun _ h => by cases h) dd_M_due_65
      · exact absurd h9 (by omega)
    | succ n ih =>
      intro t ls hk hl
      refine lv_iload_n hx hb dd_M_due_4 rfl (lv_at hl 2 rfl) ?_
      refine lv_aload_n hx hb dd_M_due_5 rfl (lv_at hl 0 rfl) ?_
      refine va_get (D := D) (ci := 4) (v := .int (nI (N 6 0))) (C := rn_M) (T := ft_M) (N := 19) hx hb hts tw_fs_M hown hK hP 0 rfl rfl 6 (by decide) (hts _ tw_fl_M_61) (fun _ h9 => h9) rfl dd_M_due_6 ?_
      refine bq_ge (tgt := 64) hx hb (by omega) (Nat.lt_of_le_of_lt hB_6 (by decide)) dd_M_due_9 rfl (fun h9 => ?_) (fun h9 => ?_)
      · exact absurd h9 (by omega)
      · refine lv_aload_n hx hb dd_M_due_12 rfl (lv_at hl 0 rfl) ?_
        refine va_get (D := D) (ci := 4) (v := .ref (ra 8)) (C := rn_M) (T := ft_M) (N := 19) hx hb hts tw_fs_M hown hK hP 0 rfl rfl 8 (by decide) (hts _ tw_fl_M_29) (fun _ h9 => h9) rfl dd_M_due_13 ?_
        refine lv_iload_n hx hb dd_M_due_16 rfl (lv_at hl 2 rfl) ?_
        refine bq_iald hx hb hK hP 6 5 rfl rfl (by omega) (by decide) dd_M_due_17 ?_
        refine lv_iconst (v := nI 1) hx hb dd_M_due_18 (by decide) ?_
        refine bq_ne (tgt := 58) hx hb (Nat.lt_trans (hB_8 t) (by decide)) (by decide) dd_M_due_19 rfl (fun h19 => ?_) (fun h19 => ?_)
        · refine lv_iinc (k := 2) (v := nI (t + 1)) hx hb dd_M_due_58 hl rfl (nI_1 _) (by decide) rfl (fun ls hl => ?_)
          have hl : lv_has ls 3 [(2, .int (nI (t + 1))), (0, .ref (ra 0)), (1, .int (bd_o (sp_d N Z t)))] := hl
          refine lv_goto (tgt := 4) hx hb dd_M_due_61 rfl ?_
          have e9 : sp_d N Z (t + 1) = sp_d N Z t := by simp [sp_d, sp_i, h9, Nat.not_le.mpr h9, h19]
          exact ih (t + 1) ls (by omega) (by rw [e9]; exact lv_sub hl [1, 2, 0] rfl)
        · refine lv_aload_n hx hb dd_M_due_22 rfl (lv_at hl 0 rfl) ?_
          refine va_get (D := D) (ci := 4) (v := .ref (ra 13)) (C := rn_M) (T := ft_M) (N := 19) hx hb hts tw_fs_M hown hK hP 0 rfl rfl 13 (by decide) (hts _ tw_fl_M_44) (fun _ h9 => h9) rfl dd_M_due_23 ?_
          refine lv_iload_n hx hb dd_M_due_26 rfl (lv_at hl 2 rfl) ?_
          refine bq_lald hx hb hK hP 11 10 rfl rfl (by omega) (by decide) dd_M_due_27 ?_
          refine lv_aload_n hx hb dd_M_due_28 rfl (lv_at hl 0 rfl) ?_
          refine va_get (D := D) (ci := 4) (v := .long (Z 18 0)) (C := rn_M) (T := ft_M) (N := 19) hx hb hts tw_fs_M hown hK hP 0 rfl rfl 18 (by decide) (hts _ tw_fl_M_111) (fun _ h9 => h9) rfl dd_M_due_29 ?_
          refine W.lcmp hx hb dd_M_due_32 ?_
          refine bq_lgt (tgt := 58) hx hb dd_M_due_33 rfl (fun h33 => ?_) (fun h33 => ?_)
          · refine lv_iinc (k := 2) (v := nI (t + 1)) hx hb dd_M_due_58 hl rfl (nI_1 _) (by decide) rfl (fun ls hl => ?_)
            have hl : lv_has ls 3 [(2, .int (nI (t + 1))), (0, .ref (ra 0)), (1, .int (bd_o (sp_d N Z t)))] := hl
            refine lv_goto (tgt := 4) hx hb dd_M_due_61 rfl ?_
            have e9 : sp_d N Z (t + 1) = sp_d N Z t := by simp [sp_d, sp_i, h9, Nat.not_le.mpr h9, h19, Int64.not_le.mpr h33]
            exact ih (t + 1) ls (by omega) (by rw [e9]; exact lv_sub hl [1, 2, 0] rfl)
          · refine lv_iload_n hx hb dd_M_due_36 rfl (lv_at hl 1 rfl) ?_
            refine bq_olt (tgt := 56) hx hb (fun k hk => by have h9 := sp_d_lt hk; omega) dd_M_due_37 rfl (fun h37 => ?_) (fun h37 => ?_)
            · refine lv_iload_n hx hb dd_M_due_56 rfl (lv_at hl 2 rfl) ?_
              refine lv_istore_n hx hb dd_M_due_57 rfl hl (by decide) rfl (fun ls hl => ?_)
              have hl : lv_has ls 3 [(1, .int (nI t)), (0, .ref (ra 0)), (2, .int (nI t))] := hl
              refine lv_iinc (k := 2) (v := nI (t + 1)) hx hb dd_M_due_58 hl rfl (nI_1 _) (by decide) rfl (fun ls hl => ?_)
              have hl : lv_has ls 3 [(2, .int (nI (t + 1))), (1, .int (nI t)), (0, .ref (ra 0))] := hl
              refine lv_goto (tgt := 4) hx hb dd_M_due_61 rfl ?_
              have e9 : sp_d N Z (t + 1) = some t := by simp [sp_d, sp_i, h9, Nat.not_le.mpr h9, h19, h33, h37]
              exact ih (t + 1) ls (by omega) (by rw [e9]; exact lv_sub hl [2, 1, 0] rfl)
            · obtain ⟨b, hb9⟩ := bd_ne h37
              have hbt := sp_d_lt hb9
              have hl : lv_has ls 3 [(0, .ref (ra 0)), (1, .int (nI b)), (2, .int (nI t))] := by rw [hb9] at hl; exact hl
              refine lv_aload_n hx hb dd_M_due_40 rfl (lv_at hl 0 rfl) ?_
              refine va_get (D := D) (ci := 4) (v := .ref (ra 13)) (C := rn_M) (T := ft_M) (N := 19) hx hb hts tw_fs_M hown hK hP 0 rfl rfl 13 (by decide) (hts _ tw_fl_M_44) (fun _ h9 => h9) rfl dd_M_due_41 ?_
              refine lv_iload_n hx hb dd_M_due_44 rfl (lv_at hl 2 rfl) ?_
              refine bq_lald hx hb hK hP 11 10 rfl rfl (by omega) (by decide) dd_M_due_45 ?_
              refine lv_aload_n hx hb dd_M_due_46 rfl (lv_at hl 0 rfl) ?_
              refine va_get (D := D) (ci := 4) (v := .ref (ra 13)) (C := rn_M) (T := ft_M) (N := 19) hx hb hts tw_fs_M hown hK hP 0 rfl rfl 13 (by decide) (hts _ tw_fl_M_44) (fun _ h9 => h9) rfl dd_M_due_47 ?_
              refine lv_iload_n hx hb dd_M_due_50 rfl (lv_at hl 1 rfl) ?_
              refine bq_lald hx hb hK hP 11 10 rfl rfl (by omega) (by decide) dd_M_due_51 ?_
              refine W.lcmp hx hb dd_M_due_52 ?_
              refine bq_lge (tgt := 58) hx hb dd_M_due_53 rfl (fun h53 => ?_) (fun h53 => ?_)
              · refine lv_iinc (k := 2) (v := nI (t + 1)) hx hb dd_M_due_58 hl rfl (nI_1 _) (by decide) rfl (fun ls hl => ?_)
                have hl : lv_has ls 3 [(2, .int (nI (t + 1))), (0, .ref (ra 0)), (1, .int (nI b))] := hl
                refine lv_goto (tgt := 4) hx hb dd_M_due_61 rfl ?_
                have e9 : sp_d N Z (t + 1) = some b := by simp [sp_d, sp_i, h9, Nat.not_le.mpr h9, h19, h33, hb9, Int64.not_lt.mpr h53]
                exact ih (t + 1) ls (by omega) (by rw [e9]; exact lv_sub hl [1, 2, 0] rfl)
              · refine lv_iload_n hx hb dd_M_due_56 rfl (lv_at hl 2 rfl) ?_
                refine lv_istore_n hx hb dd_M_due_57 rfl hl (by decide) rfl (fun ls hl => ?_)
                have hl : lv_has ls 3 [(1, .int (nI t)), (0, .ref (ra 0)), (2, .int (nI t))] := hl
                refine lv_iinc (k := 2) (v := nI (t + 1)) hx hb dd_M_due_58 hl rfl (nI_1 _) (by decide) rfl (fun ls hl => ?_)
                have hl : lv_has ls 3 [(2, .int (nI (t + 1))), (1, .int (nI t)), (0, .ref (ra 0))] := hl
                refine lv_goto (tgt := 4) hx hb dd_M_due_61 rfl ?_
                have e9 : sp_d N Z (t + 1) = some t := by simp [sp_d, sp_i, h9, Nat.not_le.mpr h9, h19, h33, hb9, h53]
                exact ih (t + 1) ls (by omega) (by rw [e9]; exact lv_sub hl [2, 1, 0] rfl)
  refine lv_iconst (v := bd_o none) hx hb dd_M_due_0 (by decide) ?_
  refine lv_istore_n hx hb dd_M_due_1 rfl hl (by decide) rfl (fun ls hl => ?_)
  have hl : lv_has ls 3 [(1, .int (bd_o none)), (0, .ref (ra 0))] := hl
  refine lv_iconst (v := nI 0) hx hb dd_M_due_2 (by decide) ?_
  refine lv_istore_n hx hb dd_M_due_3 rfl hl (by decide) rfl (fun ls hl => ?_)
  have hl : lv_has ls 3 [(2, .int (nI 0)), (1, .int (bd_o none)), (0, .ref (ra 0))] := hl
  exact lp (N 6 0) 0 ls (by omega) (lv_sub hl [2, 1, 0] rfl)

set_option maxHeartbeats 4000000 in
set_option maxRecDepth 100000 in
theorem rc_ready (l : Launch) (D : va_G) (ra : Nat → Nat) (ca : Nat → ClassId) (N : sp_N) (O : sp_O) (Z : sp_Z) (B : sp_B) (hB : sp_Bd N O)  : Met l my_M_ready (Cond.code my_M_ready cd_M_ready 3 (some .int) :: bg_tbl) ({ frames := 4, cells := 0, slots := 0, locals := 92 }) (va_Pc [.ref (ra 0)] (rf_U D ra ca N O Z B)) (vp_Si (fun r => r = nI (sp_y N O B))) 0 0 (fun _ => False) := by
  refine Met.ofW (cc := cd_M_ready) (maxL := 3) (ret := (some .int)) (by decide) rfl ?_
  intro p e s m args below meth c s₁ BB hml hv
  obtain ⟨rfl, hP, hK⟩ := hv
  have hx := BB.exec
  have hb := BB.bytes
  have hr := BB.returns
  have hts : ∀ w ∈ bg_tbl, w.before ([.ref (ra 0)] : List Value).toArray s = true := fun w h => atoms_spec (ws := (Cond.code my_M_ready cd_M_ready 3 (some .int) :: bg_tbl)) BB.pre w (List.mem_cons_of_mem _ h)
  have hown : s.vm.findClass rn_M = some m.cls := findClass_of_methodNamed BB.named
  have hlocks := BB.notSynchronized
  obtain ⟨hB_0, hB_1, hB_2, hB_3, hB_4, hB_5, hB_6, hB_7, hB_8, hB_9, hB_10, hB_11, hB_12, hB_17⟩ := id hB
  have hl := lv_entry ([.ref (ra 0)]) (n := 3) (Nat.le_of_ble_eq_true rfl)
  rw [lg_entry_eq]
  generalize (lg_sl ([.ref (ra 0)]) ++ List.replicate (3 - (lg_sl ([.ref (ra 0)])).length) Slot.unset).toArray = ls at hl ⊢
  have hl : lv_has ls 3 [(0, .ref (ra 0))] := hl
  have lp : ∀ (n : Nat) (t : Nat) (ls : Array Slot), (n + t = N 6 0) →  lv_has ls 3 [(0, .ref (ra 0)), (1, .int (nI (sp_c (sp_m N O B) t))), (2, .int (nI t))] → W p l e (headSpec (Cond.code my_M_ready cd_M_ready 3 (some .int) :: bg_tbl) ({ frames := 4, cells := 0, slots := 0, locals := 92 })).room s m ([.ref (ra 0)] : List Value).toArray below meth c s.heap [] 0 0 (MQ below (vp_Si (fun r => r = nI (sp_y N O B))) ([.ref (ra 0)] : List Value).toArray s 0 0 (fun _ => False)) (F0 m 4 ls []) := by
    intro n
    induction n with
    | zero =>
      intro t ls hk hl
      refine lv_iload_n hx hb dd_M_ready_4 rfl (lv_at hl 2 rfl) ?_
      refine lv_aload_n hx hb dd_M_ready_5 rfl (lv_at hl 0 rfl) ?_
      refine va_get (D := D) (ci := 4) (v := .int (nI (N 6 0))) (C := rn_M) (T := ft_M) (N := 19) hx hb hts tw_fs_M hown hK hP 0 rfl rfl 6 (by decide) (hts _ tw_fl_M_61) (fun _ h9 => h9) rfl dd_M_ready_6 ?_
      refine bq_ge (tgt := 34) hx hb (by omega) (Nat.lt_of_le_of_lt hB_6 (by decide)) dd_M_ready_9 rfl (fun h9 => ?_) (fun h9 => ?_)
      · refine lv_iload_n hx hb dd_M_ready_34 rfl (lv_at hl 1 rfl) ?_
        exact W.iret hx hb hr (fun tt htt hWW => ⟨_, rfl, (by rw [show t = N 6 0 by omega]; rfl), htt⟩) (fun _ h => by cases h) dd_M_ready_35
      · exact absurd h9 (by omega)
    | succ n ih =>
      intro t ls hk hl
      refine lv_iload_n hx hb dd_M_ready_4 rfl (lv_at hl 2 rfl) ?_
      refine lv_aload_n hx hb dd_M_ready_5 rfl (lv_at hl 0 rfl) ?_
      refine va_get (D := D) (ci := 4) (v := .int (nI (N 6 0))) (C := rn_M) (T := ft_M) (N := 19) hx hb hts tw_fs_M hown hK hP 0 rfl rfl 6 (by decide) (hts _ tw_fl_M_61) (fun _ h9 => h9) rfl dd_M_ready_6 ?_
      refine bq_ge (tgt := 34) hx hb (by omega) (Nat.lt_of_le_of_lt hB_6 (by decide)) dd_M_ready_9 rfl (fun h9 => ?_) (fun h9 => ?_)
      · exact absurd h9 (by omega)
      · refine lv_aload_n hx hb dd_M_ready_12 rfl (lv_at hl 0 rfl) ?_
        refine lv_iload_n hx hb dd_M_ready_13 rfl (lv_at hl 2 rfl) ?_
        refine rf_calli (As := [.int (nI t)]) (rest := []) (v := bd_b (sp_m N O B t)) ⟨hx, hb, hml, hown, hts⟩ (rc_mayStart l D ra ca N O Z B hB t (by omega)) (bg_cwV 1 hts tw_ml_M_122 tw_im_M_mayStart tw_se_M_mayStart tw_in_M tw_co_M_mayStart rfl rfl th_M_mayStart ⟨Nat.le_of_ble_eq_true rfl, Nat.le_of_ble_eq_true rfl⟩) hK hP rfl hl.1 rfl (by decide) dd_M_ready_14 ⟨Nat.zero_le _, Nat.zero_le _⟩ ?_
        refine bq_zeq (tgt := 26) hx hb dd_M_ready_17 rfl (fun h17 => ?_) (fun h17 => ?_)
        · refine lv_iload_n hx hb dd_M_ready_26 rfl (lv_at hl 1 rfl) ?_
          refine lv_istore_n hx hb dd_M_ready_27 rfl hl (by decide) rfl (fun ls hl => ?_)
          have hl : lv_has ls 3 [(1, .int (nI (sp_c (sp_m N O B) t))), (0, .ref (ra 0)), (2, .int (nI t))] := hl
          refine lv_iinc (k := 2) (v := nI (t + 1)) hx hb dd_M_ready_28 hl rfl (nI_1 _) (by decide) rfl (fun ls hl => ?_)
          have hl : lv_has ls 3 [(2, .int (nI (t + 1))), (1, .int (nI (sp_c (sp_m N O B) t))), (0, .ref (ra 0))] := hl
          refine lv_goto (tgt := 4) hx hb dd_M_ready_31 rfl ?_
          have e9 : sp_c (sp_m N O B) (t + 1) = sp_c (sp_m N O B) t := by simp [sp_c, h9, Nat.not_le.mpr h9, h17]
          exact ih (t + 1) ls (by omega) (by rw [e9]; exact lv_sub hl [2, 1, 0] rfl)
        · refine lv_iload_n hx hb dd_M_ready_20 rfl (lv_at hl 1 rfl) ?_
          refine lv_iconst (v := nI 1) hx hb dd_M_ready_21 (by decide) ?_
          refine lv_iadd hx hb dd_M_ready_22 ?_
          rw [nI_add]
          refine lv_goto (tgt := 27) hx hb dd_M_ready_23 rfl ?_
          refine lv_istore_n hx hb dd_M_ready_27 rfl hl (by decide) rfl (fun ls hl => ?_)
          have hl : lv_has ls 3 [(1, .int (nI ((sp_c (sp_m N O B) t) + 1))), (0, .ref (ra 0)), (2, .int (nI t))] := hl
          refine lv_iinc (k := 2) (v := nI (t + 1)) hx hb dd_M_ready_28 hl rfl (nI_1 _) (by decide) rfl (fun ls hl => ?_)
          have hl : lv_has ls 3 [(2, .int (nI (t + 1))), (1, .int (nI ((sp_c (sp_m N O B) t) + 1))), (0, .ref (ra 0))] := hl
          refine lv_goto (tgt := 4) hx hb dd_M_ready_31 rfl ?_
          have e9 : sp_c (sp_m N O B) (t + 1) = (sp_c (sp_m N O B) t) + 1 := by simp [sp_c, h9, Nat.not_le.mpr h9, h17]
          exact ih (t + 1) ls (by omega) (by rw [e9]; exact lv_sub hl [2, 1, 0] rfl)
  refine lv_iconst (v := nI 0) hx hb dd_M_ready_0 (by decide) ?_
  refine lv_istore_n hx hb dd_M_ready_1 rfl hl (by decide) rfl (fun ls hl => ?_)
  have hl : lv_has ls 3 [(1, .int (nI 0)), (0, .ref (ra 0))] := hl
  refine lv_iconst (v := nI 0) hx hb dd_M_ready_2 (by decide) ?_
  refine lv_istore_n hx hb dd_M_ready_3 rfl hl (by decide) rfl (fun ls hl => ?_)
  have hl : lv_has ls 3 [(2, .int (nI 0)), (1, .int (nI 0)), (0, .ref (ra 0))] := hl
  exact lp (N 6 0) 0 ls (by omega) (lv_sub hl [2, 1, 0] rfl)

set_option maxHeartbeats 4000000 in
set_option maxRecDepth 100000 in
theorem rc_through (l : Launch) (D : va_G) (ra : Nat → Nat) (ca : Nat → ClassId) (N : sp_N) (O : sp_O) (Z : sp_Z) (B : sp_B) (hB : sp_Bd N O) (q : Int32) : Met l my_M_through (Cond.code my_M_through cd_M_through 2 (some .int) :: bg_tbl) ({ frames := 2, cells := 0, slots := 0, locals := 47 }) (va_Pc [.ref (ra 0), .int q] (rf_U D ra ca N O Z B)) (vp_Si (fun r => r = am_through N q)) 0 0 (fun _ => False) := by
  refine Met.ofW (cc := cd_M_through) (maxL := 2) (ret := (some .int)) (by decide) rfl ?_
  intro p e s m args below meth c s₁ BB hml hv
  obtain ⟨rfl, hP, hK⟩ := hv
  have hx := BB.exec
  have hb := BB.bytes
  have hr := BB.returns
  have hts : ∀ w ∈ bg_tbl, w.before ([.ref (ra 0), .int q] : List Value).toArray s = true := fun w h => atoms_spec (ws := (Cond.code my_M_through cd_M_through 2 (some .int) :: bg_tbl)) BB.pre w (List.mem_cons_of_mem _ h)
  have hown : s.vm.findClass rn_M = some m.cls := findClass_of_methodNamed BB.named
  have hlocks := BB.notSynchronized
  obtain ⟨hB_0, hB_1, hB_2, hB_3, hB_4, hB_5, hB_6, hB_7, hB_8, hB_9, hB_10, hB_11, hB_12, hB_17⟩ := id hB
  have hl := lv_entry ([.ref (ra 0), .int q]) (n := 2) (Nat.le_of_ble_eq_true rfl)
  rw [lg_entry_eq]
  generalize (lg_sl ([.ref (ra 0), .int q]) ++ List.replicate (2 - (lg_sl ([.ref (ra 0), .int q])).length) Slot.unset).toArray = ls at hl ⊢
  have hl : lv_has ls 2 [(0, .ref (ra 0)), (1, .int q)] := hl
  refine lv_aload_n hx hb dd_M_through_0 rfl (lv_at hl 0 rfl) ?_
  refine lv_iload_n hx hb dd_M_through_1 rfl (lv_at hl 1 rfl) ?_
  refine rf_calli (As := [.int q]) (rest := []) (v := bd_b (bd_in q (N 1 0))) ⟨hx, hb, hml, hown, hts⟩ (rc_isQueue l D ra ca N O Z B hB q) (bg_cwV 1 hts tw_ml_M_102 tw_im_M_isQueue tw_se_M_isQueue tw_in_M tw_co_M_isQueue rfl rfl th_M_isQueue ⟨Nat.le_of_ble_eq_true rfl, Nat.le_of_ble_eq_true rfl⟩) hK hP rfl hl.1 rfl (by decide) dd_M_through_2 ⟨Nat.zero_le _, Nat.zero_le _⟩ ?_
  refine bq_zeq (tgt := 16) hx hb dd_M_through_5 rfl (fun h5 => ?_) (fun h5 => ?_)
  · refine lv_iconst (v := -1) hx hb dd_M_through_16 (by decide) ?_
    exact W.iret hx hb hr (fun tt htt hWW => ⟨_, rfl, (by rw [am_through, if_neg (by rw [h5]; decide)]), htt⟩) (fun _ h => by cases h) dd_M_through_17
  · obtain ⟨a, ha9, rfl⟩ := bd_in_of h5 (by omega)
    refine lv_aload_n hx hb dd_M_through_8 rfl (lv_at hl 0 rfl) ?_
    refine lv_iload_n hx hb dd_M_through_9 rfl (lv_at hl 1 rfl) ?_
    refine rf_calli (As := [.int (nI a)]) (rest := []) (v := nI (sp_p N a)) ⟨hx, hb, hml, hown, hts⟩ (rc_passing l D ra ca N O Z B hB a (by omega)) (bg_cwV 1 hts tw_ml_M_72 tw_im_M_passing tw_se_M_passing tw_in_M tw_co_M_passing rfl rfl th_M_passing ⟨Nat.le_of_ble_eq_true rfl, Nat.le_of_ble_eq_true rfl⟩) hK hP rfl hl.1 rfl (by decide) dd_M_through_10 ⟨Nat.zero_le _, Nat.zero_le _⟩ ?_
    refine lv_goto (tgt := 17) hx hb dd_M_through_13 rfl ?_
    exact W.iret hx hb hr (fun tt htt hWW => ⟨_, rfl, (by rw [am_through, if_pos h5, nI_clamp (by omega)]), htt⟩) (fun _ h => by cases h) dd_M_through_17

set_option maxHeartbeats 4000000 in
set_option maxRecDepth 100000 in
theorem rc_peak (l : Launch) (D : va_G) (ra : Nat → Nat) (ca : Nat → ClassId) (N : sp_N) (O : sp_O) (Z : sp_Z) (B : sp_B) (hB : sp_Bd N O) (q : Int32) : Met l my_M_peak (Cond.code my_M_peak cd_M_peak 2 (some .int) :: bg_tbl) ({ frames := 1, cells := 0, slots := 0, locals := 21 }) (va_Pc [.ref (ra 0), .int q] (rf_U D ra ca N O Z B)) (vp_Si (fun r => r = am_peak N q)) 0 0 (fun _ => False) := by
  refine Met.ofW (cc := cd_M_peak) (maxL := 2) (ret := (some .int)) (by decide) rfl ?_
  intro p e s m args below meth c s₁ BB hml hv
  obtain ⟨rfl, hP, hK⟩ := hv
  have hx := BB.exec
  have hb := BB.bytes
  have hr := BB.returns
  have hts : ∀ w ∈ bg_tbl, w.before ([.ref (ra 0), .int q] : List Value).toArray s = true := fun w h => atoms_spec (ws := (Cond.code my_M_peak cd_M_peak 2 (some .int) :: bg_tbl)) BB.pre w (List.mem_cons_of_mem _ h)
  have hown : s.vm.findClass rn_M = some m.cls := findClass_of_methodNamed BB.named
  have hlocks := BB.notSynchronized
  obtain ⟨hB_0, hB_1, hB_2, hB_3, hB_4, hB_5, hB_6, hB_7, hB_8, hB_9, hB_10, hB_11, hB_12, hB_17⟩ := id hB
  have hl := lv_entry ([.ref (ra 0), .int q]) (n := 2) (Nat.le_of_ble_eq_true rfl)
  rw [lg_entry_eq]
  generalize (lg_sl ([.ref (ra 0), .int q]) ++ List.replicate (2 - (lg_sl ([.ref (ra 0), .int q])).length) Slot.unset).toArray = ls at hl ⊢
  have hl : lv_has ls 2 [(0, .ref (ra 0)), (1, .int q)] := hl
  refine lv_aload_n hx hb dd_M_peak_0 rfl (lv_at hl 0 rfl) ?_
  refine lv_iload_n hx hb dd_M_peak_1 rfl (lv_at hl 1 rfl) ?_
  refine rf_calli (As := [.int q]) (rest := []) (v := bd_b (bd_in q (N 1 0))) ⟨hx, hb, hml, hown, hts⟩ (rc_isQueue l D ra ca N O Z B hB q) (bg_cwV 1 hts tw_ml_M_102 tw_im_M_isQueue tw_se_M_isQueue tw_in_M tw_co_M_isQueue rfl rfl th_M_isQueue ⟨Nat.le_of_ble_eq_true rfl, Nat.le_of_ble_eq_true rfl⟩) hK hP rfl hl.1 rfl (by decide) dd_M_peak_2 ⟨Nat.zero_le _, Nat.zero_le _⟩ ?_
  refine bq_zeq (tgt := 17) hx hb dd_M_peak_5 rfl (fun h5 => ?_) (fun h5 => ?_)
  · refine lv_iconst (v := -1) hx hb dd_M_peak_17 (by decide) ?_
    exact W.iret hx hb hr (fun tt htt hWW => ⟨_, rfl, (by rw [am_peak, if_neg (by rw [h5]; decide)]), htt⟩) (fun _ h => by cases h) dd_M_peak_18
  · obtain ⟨a, ha9, rfl⟩ := bd_in_of h5 (by omega)
    refine lv_aload_n hx hb dd_M_peak_8 rfl (lv_at hl 0 rfl) ?_
    refine va_get (D := D) (ci := 4) (v := .ref (ra 5)) (C := rn_M) (T := ft_M) (N := 19) hx hb hts tw_fs_M hown hK hP 0 rfl rfl 5 (by decide) (hts _ tw_fl_M_23) (fun _ h9 => h9) rfl dd_M_peak_9 ?_
    refine lv_iload_n hx hb dd_M_peak_12 rfl (lv_at hl 1 rfl) ?_
    refine bq_iald hx hb hK hP 4 3 rfl rfl (by omega) (by decide) dd_M_peak_13 ?_
    refine lv_goto (tgt := 18) hx hb dd_M_peak_14 rfl ?_
    exact W.iret hx hb hr (fun tt htt hWW => ⟨_, rfl, (by rw [am_peak, if_pos h5, nI_clamp (by omega)]), htt⟩) (fun _ h => by cases h) dd_M_peak_18

set_option maxHeartbeats 4000000 in
set_option maxRecDepth 100000 in
theorem rc_count (l : Launch) (D : va_G) (ra : Nat → Nat) (ca : Nat → ClassId) (N : sp_N) (O : sp_O) (Z : sp_Z) (B : sp_B) (hB : sp_Bd N O) (g : Int32) : Met l my_M_count (Cond.code my_M_count cd_M_count 2 (some .int) :: bg_tbl) ({ frames := 1, cells := 0, slots := 0, locals := 23 }) (va_Pc [.ref (ra 0), .int g] (rf_U D ra ca N O Z B)) (vp_Si (fun r => r = am_count N O g)) 0 0 (fun _ => False) := by
  refine Met.ofW (cc := cd_M_count) (maxL := 2) (ret := (some .int)) (by decide) rfl ?_
  intro p e s m args below meth c s₁ BB hml hv
  obtain ⟨rfl, hP, hK⟩ := hv
  have hx := BB.exec
  have hb := BB.bytes
  have hr := BB.returns
  have hts : ∀ w ∈ bg_tbl, w.before ([.ref (ra 0), .int g] : List Value).toArray s = true := fun w h => atoms_spec (ws := (Cond.code my_M_count cd_M_count 2 (some .int) :: bg_tbl)) BB.pre w (List.mem_cons_of_mem _ h)
  have hown : s.vm.findClass rn_M = some m.cls := findClass_of_methodNamed BB.named
  have hlocks := BB.notSynchronized
  obtain ⟨hB_0, hB_1, hB_2, hB_3, hB_4, hB_5, hB_6, hB_7, hB_8, hB_9, hB_10, hB_11, hB_12, hB_17⟩ := id hB
  have hl := lv_entry ([.ref (ra 0), .int g]) (n := 2) (Nat.le_of_ble_eq_true rfl)
  rw [lg_entry_eq]
  generalize (lg_sl ([.ref (ra 0), .int g]) ++ List.replicate (2 - (lg_sl ([.ref (ra 0), .int g])).length) Slot.unset).toArray = ls at hl ⊢
  have hl : lv_has ls 2 [(0, .ref (ra 0)), (1, .int g)] := hl
  refine lv_iload_n hx hb dd_M_count_0 rfl (lv_at hl 1 rfl) ?_
  refine lv_if_lt (tgt := 9) hx hb dd_M_count_1 rfl (fun h1 => ?_) (fun h1 => ?_)
  · refine lv_bipush (v := -2) hx hb dd_M_count_9 (by decide) ?_
    refine lv_goto (tgt := 19) hx hb dd_M_count_11 rfl ?_
    exact W.iret hx hb hr (fun tt htt hWW => ⟨_, rfl, (by rw [am_count, if_neg (by rw [bd_in_1 h1]; decide)]), htt⟩) (fun _ h => by cases h) dd_M_count_19
  · refine lv_iload_n hx hb dd_M_count_4 rfl (lv_at hl 1 rfl) ?_
    refine lv_iconst (v := nI 3) hx hb dd_M_count_5 (by decide) ?_
    refine lv_icmp_le (tgt := 14) hx hb dd_M_count_6 rfl (fun h6 => ?_) (fun h6 => ?_)
    · obtain ⟨a, ha9, rfl⟩ := bd_in_of (bd_in_4 h1 h6) (by decide)
      refine lv_aload_n hx hb dd_M_count_14 rfl (lv_at hl 0 rfl) ?_
      refine lv_iload_n hx hb dd_M_count_15 rfl (lv_at hl 1 rfl) ?_
      refine rf_calli (As := [.int (nI a)]) (rest := []) (v := nI (sp_g N O a)) ⟨hx, hb, hml, hown, hts⟩ (rc_countOf l D ra ca N O Z B hB a (by omega)) (bg_cwV 1 hts tw_ml_M_92 tw_im_M_countOf tw_se_M_countOf tw_in_M tw_co_M_countOf rfl rfl th_M_countOf ⟨Nat.le_of_ble_eq_true rfl, Nat.le_of_ble_eq_true rfl⟩) hK hP rfl hl.1 rfl (by decide) dd_M_count_16 ⟨Nat.zero_le _, Nat.zero_le _⟩ ?_
      exact W.iret hx hb hr (fun tt htt hWW => ⟨_, rfl, (by rw [am_count, if_pos (bd_in_4 h1 h6), nI_clamp (by omega)]), htt⟩) (fun _ h => by cases h) dd_M_count_19
    · refine lv_bipush (v := -2) hx hb dd_M_count_9 (by decide) ?_
      refine lv_goto (tgt := 19) hx hb dd_M_count_11 rfl ?_
      exact W.iret hx hb hr (fun tt htt hWW => ⟨_, rfl, (by rw [am_count, if_neg (by rw [bd_in_5 h6]; decide)]), htt⟩) (fun _ h => by cases h) dd_M_count_19

set_option maxHeartbeats 4000000 in
set_option maxRecDepth 100000 in
theorem rc_state (l : Launch) (D : va_G) (ra : Nat → Nat) (ca : Nat → ClassId) (N : sp_N) (O : sp_O) (Z : sp_Z) (B : sp_B) (hB : sp_Bd N O) (t : Int32) : Met l my_M_state (Cond.code my_M_state cd_M_state 2 (some .int) :: bg_tbl) ({ frames := 1, cells := 0, slots := 0, locals := 21 }) (va_Pc [.ref (ra 0), .int t] (rf_U D ra ca N O Z B)) (vp_Si (fun r => r = am_state N B t)) 0 0 (fun _ => False) := by
  refine Met.ofW (cc := cd_M_state) (maxL := 2) (ret := (some .int)) (by decide) rfl ?_
  intro p e s m args below meth c s₁ BB hml hv
  obtain ⟨rfl, hP, hK⟩ := hv
  have hx := BB.exec
  have hb := BB.bytes
  have hr := BB.returns
  have hts : ∀ w ∈ bg_tbl, w.before ([.ref (ra 0), .int t] : List Value).toArray s = true := fun w h => atoms_spec (ws := (Cond.code my_M_state cd_M_state 2 (some .int) :: bg_tbl)) BB.pre w (List.mem_cons_of_mem _ h)
  have hown : s.vm.findClass rn_M = some m.cls := findClass_of_methodNamed BB.named
  have hlocks := BB.notSynchronized
  obtain ⟨hB_0, hB_1, hB_2, hB_3, hB_4, hB_5, hB_6, hB_7, hB_8, hB_9, hB_10, hB_11, hB_12, hB_17⟩ := id hB
  have hl := lv_entry ([.ref (ra 0), .int t]) (n := 2) (Nat.le_of_ble_eq_true rfl)
  rw [lg_entry_eq]
  generalize (lg_sl ([.ref (ra 0), .int t]) ++ List.replicate (2 - (lg_sl ([.ref (ra 0), .int t])).length) Slot.unset).toArray = ls at hl ⊢
  have hl : lv_has ls 2 [(0, .ref (ra 0)), (1, .int t)] := hl
  refine lv_aload_n hx hb dd_M_state_0 rfl (lv_at hl 0 rfl) ?_
  refine lv_iload_n hx hb dd_M_state_1 rfl (lv_at hl 1 rfl) ?_
  refine rf_calli (As := [.int t]) (rest := []) (v := bd_b (bd_in t (N 6 0))) ⟨hx, hb, hml, hown, hts⟩ (rc_isBlock l D ra ca N O Z B hB t) (bg_cwV 1 hts tw_ml_M_115 tw_im_M_isBlock tw_se_M_isBlock tw_in_M tw_co_M_isBlock rfl rfl th_M_isBlock ⟨Nat.le_of_ble_eq_true rfl, Nat.le_of_ble_eq_true rfl⟩) hK hP rfl hl.1 rfl (by decide) dd_M_state_2 ⟨Nat.zero_le _, Nat.zero_le _⟩ ?_
  refine bq_zne (tgt := 11) hx hb dd_M_state_5 rfl (fun h5 => ?_) (fun h5 => ?_)
  · obtain ⟨a, ha9, rfl⟩ := bd_in_of h5 (by omega)
    refine lv_aload_n hx hb dd_M_state_11 rfl (lv_at hl 0 rfl) ?_
    refine va_get (D := D) (ci := 4) (v := .ref (ra 8)) (C := rn_M) (T := ft_M) (N := 19) hx hb hts tw_fs_M hown hK hP 0 rfl rfl 8 (by decide) (hts _ tw_fl_M_29) (fun _ h9 => h9) rfl dd_M_state_12 ?_
    refine lv_iload_n hx hb dd_M_state_15 rfl (lv_at hl 1 rfl) ?_
    refine bq_iald hx hb hK hP 6 5 rfl rfl (by omega) (by decide) dd_M_state_16 ?_
    refine lv_aload_n hx hb dd_M_state_17 rfl (lv_at hl 0 rfl) ?_
    refine va_get (D := D) (ci := 4) (v := .ref (ra 15)) (C := rn_M) (T := ft_M) (N := 19) hx hb hts tw_fs_M hown hK hP 0 rfl rfl 15 (by decide) (hts _ tw_fl_M_52) (fun _ h9 => h9) rfl dd_M_state_18 ?_
    refine lv_iload_n hx hb dd_M_state_21 rfl (lv_at hl 1 rfl) ?_
    refine bq_zald hx hb hK hP 13 12 rfl rfl (by omega) (by decide) dd_M_state_22 ?_
    refine bq_zeq (tgt := 31) hx hb dd_M_state_23 rfl (fun h23 => ?_) (fun h23 => ?_)
    · refine lv_iconst (v := nI 0) hx hb dd_M_state_31 (by decide) ?_
      refine lv_iadd hx hb dd_M_state_32 ?_
      rw [nI_add]
      exact W.iret hx hb hr (fun tt htt hWW => ⟨_, rfl, (by rw [am_state, if_pos h5, nI_clamp (by omega), if_neg (by rw [h23]; decide)]), htt⟩) (fun _ h => by cases h) dd_M_state_33
    · refine lv_bipush (v := nI 8) hx hb dd_M_state_26 (by decide) ?_
      refine lv_goto (tgt := 32) hx hb dd_M_state_28 rfl ?_
      refine lv_iadd hx hb dd_M_state_32 ?_
      rw [nI_add]
      exact W.iret hx hb hr (fun tt htt hWW => ⟨_, rfl, (by rw [am_state, if_pos h5, nI_clamp (by omega), if_pos h23]), htt⟩) (fun _ h => by cases h) dd_M_state_33
  · refine lv_bipush (v := -3) hx hb dd_M_state_8 (by decide) ?_
    exact W.iret hx hb hr (fun tt htt hWW => ⟨_, rfl, (by rw [am_state, if_neg (by rw [h5]; decide)]), htt⟩) (fun _ h => by cases h) dd_M_state_10

set_option maxHeartbeats 4000000 in
set_option maxRecDepth 100000 in
theorem rc_queued (l : Launch) (D : va_G) (ra : Nat → Nat) (ca : Nat → ClassId) (N : sp_N) (O : sp_O) (Z : sp_Z) (B : sp_B) (hB : sp_Bd N O) (q : Int32) : Met l my_M_queued (Cond.code my_M_queued cd_M_queued 4 (some .int) :: bg_tbl) ({ frames := 1, cells := 0, slots := 0, locals := 21 }) (va_Pc [.ref (ra 0), .int q] (rf_U D ra ca N O Z B)) (vp_Si (fun r => r = am_queued N q)) 0 0 (fun _ => False) := by
  refine Met.ofW (cc := cd_M_queued) (maxL := 4) (ret := (some .int)) (by decide) rfl ?_
  intro p e s m args below meth c s₁ BB hml hv
  obtain ⟨rfl, hP, hK⟩ := hv
  have hx := BB.exec
  have hb := BB.bytes
  have hr := BB.returns
  have hts : ∀ w ∈ bg_tbl, w.before ([.ref (ra 0), .int q] : List Value).toArray s = true := fun w h => atoms_spec (ws := (Cond.code my_M_queued cd_M_queued 4 (some .int) :: bg_tbl)) BB.pre w (List.mem_cons_of_mem _ h)
  have hown : s.vm.findClass rn_M = some m.cls := findClass_of_methodNamed BB.named
  have hlocks := BB.notSynchronized
  obtain ⟨hB_0, hB_1, hB_2, hB_3, hB_4, hB_5, hB_6, hB_7, hB_8, hB_9, hB_10, hB_11, hB_12, hB_17⟩ := id hB
  have hl := lv_entry ([.ref (ra 0), .int q]) (n := 4) (Nat.le_of_ble_eq_true rfl)
  rw [lg_entry_eq]
  generalize (lg_sl ([.ref (ra 0), .int q]) ++ List.replicate (4 - (lg_sl ([.ref (ra 0), .int q])).length) Slot.unset).toArray = ls at hl ⊢
  have hl : lv_has ls 4 [(0, .ref (ra 0)), (1, .int q)] := hl
  refine lv_aload_n hx hb dd_M_queued_0 rfl (lv_at hl 0 rfl) ?_
  refine lv_iload_n hx hb dd_M_queued_1 rfl (lv_at hl 1 rfl) ?_
  refine rf_calli (As := [.int q]) (rest := []) (v := bd_b (bd_in q (N 1 0))) ⟨hx, hb, hml, hown, hts⟩ (rc_isQueue l D ra ca N O Z B hB q) (bg_cwV 1 hts tw_ml_M_102 tw_im_M_isQueue tw_se_M_isQueue tw_in_M tw_co_M_isQueue rfl rfl th_M_isQueue ⟨Nat.le_of_ble_eq_true rfl, Nat.le_of_ble_eq_true rfl⟩) hK hP rfl hl.1 rfl (by decide) dd_M_queued_2 ⟨Nat.zero_le _, Nat.zero_le _⟩ ?_
  refine bq_zne (tgt := 10) hx hb dd_M_queued_5 rfl (fun h5 => ?_) (fun h5 => ?_)
  · obtain ⟨a, ha9, rfl⟩ := bd_in_of h5 (by omega)
    have lp : ∀ (n : Nat) (t : Nat) (ls : Array Slot), (n + t = N 6 0) →  lv_has ls 4 [(0, .ref (ra 0)), (1, .int (nI a)), (2, .int (nI (sp_c (fun t => decide (N 8 t = 2) && decide (N 7 t = a)) t))), (3, .int (nI t))] → W p l e (headSpec (Cond.code my_M_queued cd_M_queued 4 (some .int) :: bg_tbl) ({ frames := 1, cells := 0, slots := 0, locals := 21 })).room s m ([.ref (ra 0), .int (nI a)] : List Value).toArray below meth c s.heap [] 0 0 (MQ below (vp_Si (fun r => r = am_queued N (nI a))) ([.ref (ra 0), .int (nI a)] : List Value).toArray s 0 0 (fun _ => False)) (F0 m 14 ls []) := by
      intro n
      induction n with
      | zero =>
        intro t ls hk hl
        refine lv_iload_n hx hb dd_M_queued_14 rfl (lv_at hl 3 rfl) ?_
        refine lv_aload_n hx hb dd_M_queued_15 rfl (lv_at hl 0 rfl) ?_
        refine va_get (D := D) (ci := 4) (v := .int (nI (N 6 0))) (C := rn_M) (T := ft_M) (N := 19) hx hb hts tw_fs_M hown hK hP 0 rfl rfl 6 (by decide) (hts _ tw_fl_M_61) (fun _ h9 => h9) rfl dd_M_queued_16 ?_
        refine bq_ge (tgt := 56) hx hb (by omega) (Nat.lt_of_le_of_lt hB_6 (by decide)) dd_M_queued_19 rfl (fun h19 => ?_) (fun h19 => ?_)
        · refine lv_iload_n hx hb dd_M_queued_56 rfl (lv_at hl 2 rfl) ?_
          exact W.iret hx hb hr (fun tt htt hWW => ⟨_, rfl, (by rw [am_queued, if_pos h5, nI_clamp (by omega), sp_q, show t = N 6 0 by omega]), htt⟩) (fun _ h => by cases h) dd_M_queued_57
        · exact absurd h19 (by omega)
      | succ n ih =>
        intro t ls hk hl
        refine lv_iload_n hx hb dd_M_queued_14 rfl (lv_at hl 3 rfl) ?_
        refine lv_aload_n hx hb dd_M_queued_15 rfl (lv_at hl 0 rfl) ?_
        refine va_get (D := D) (ci := 4) (v := .int (nI (N 6 0))) (C := rn_M) (T := ft_M) (N := 19) hx hb hts tw_fs_M hown hK hP 0 rfl rfl 6 (by decide) (hts _ tw_fl_M_61) (fun _ h9 => h9) rfl dd_M_queued_16 ?_
        refine bq_ge (tgt := 56) hx hb (by omega) (Nat.lt_of_le_of_lt hB_6 (by decide)) dd_M_queued_19 rfl (fun h19 => ?_) (fun h19 => ?_)
        · exact absurd h19 (by omega)
        · refine lv_aload_n hx hb dd_M_queued_22 rfl (lv_at hl 0 rfl) ?_
          refine va_get (D := D) (ci := 4) (v := .ref (ra 8)) (C := rn_M) (T := ft_M) (N := 19) hx hb hts tw_fs_M hown hK hP 0 rfl rfl 8 (by decide) (hts _ tw_fl_M_29) (fun _ h9 => h9) rfl dd_M_queued_23 ?_
          refine lv_iload_n hx hb dd_M_queued_26 rfl (lv_at hl 3 rfl) ?_
          refine bq_iald hx hb hK hP 6 5 rfl rfl (by omega) (by decide) dd_M_queued_27 ?_
          refine lv_iconst (v := nI 2) hx hb dd_M_queued_28 (by decide) ?_
          refine bq_ne (tgt := 48) hx hb (Nat.lt_trans (hB_8 t) (by decide)) (by decide) dd_M_queued_29 rfl (fun h29 => ?_) (fun h29 => ?_)
          · refine lv_iload_n hx hb dd_M_queued_48 rfl (lv_at hl 2 rfl) ?_
            refine lv_istore_n hx hb dd_M_queued_49 rfl hl (by decide) rfl (fun ls hl => ?_)
            have hl : lv_has ls 4 [(2, .int (nI (sp_c (fun t => decide (N 8 t = 2) && decide (N 7 t = a)) t))), (0, .ref (ra 0)), (1, .int (nI a)), (3, .int (nI t))] := hl
            refine lv_iinc (k := 3) (v := nI (t + 1)) hx hb dd_M_queued_50 hl rfl (nI_1 _) (by decide) rfl (fun ls hl => ?_)
            have hl : lv_has ls 4 [(3, .int (nI (t + 1))), (2, .int (nI (sp_c (fun t => decide (N 8 t = 2) && decide (N 7 t = a)) t))), (0, .ref (ra 0)), (1, .int (nI a))] := hl
            refine lv_goto (tgt := 14) hx hb dd_M_queued_53 rfl ?_
            have e9 : sp_c (fun t => decide (N 8 t = 2) && decide (N 7 t = a)) (t + 1) = sp_c (fun t => decide (N 8 t = 2) && decide (N 7 t = a)) t := by simp [sp_c, h19, Nat.not_le.mpr h19, h29]
            exact ih (t + 1) ls (by omega) (by rw [e9]; exact lv_sub hl [2, 3, 1, 0] rfl)
          · refine lv_aload_n hx hb dd_M_queued_32 rfl (lv_at hl 0 rfl) ?_
            refine va_get (D := D) (ci := 4) (v := .ref (ra 7)) (C := rn_M) (T := ft_M) (N := 19) hx hb hts tw_fs_M hown hK hP 0 rfl rfl 7 (by decide) (hts _ tw_fl_M_26) (fun _ h9 => h9) rfl dd_M_queued_33 ?_
            refine lv_iload_n hx hb dd_M_queued_36 rfl (lv_at hl 3 rfl) ?_
            refine bq_iald hx hb hK hP 5 4 rfl rfl (by omega) (by decide) dd_M_queued_37 ?_
            refine lv_iload_n hx hb dd_M_queued_38 rfl (lv_at hl 1 rfl) ?_
            refine bq_ne (tgt := 48) hx hb (Nat.lt_trans (hB_7 t) (by decide)) (by omega) dd_M_queued_39 rfl (fun h39 => ?_) (fun h39 => ?_)
            · refine lv_iload_n hx hb dd_M_queued_48 rfl (lv_at hl 2 rfl) ?_
              refine lv_istore_n hx hb dd_M_queued_49 rfl hl (by decide) rfl (fun ls hl => ?_)
              have hl : lv_has ls 4 [(2, .int (nI (sp_c (fun t => decide (N 8 t = 2) && decide (N 7 t = a)) t))), (0, .ref (ra 0)), (1, .int (nI a)), (3, .int (nI t))] := hl
              refine lv_iinc (k := 3) (v := nI (t + 1)) hx hb dd_M_queued_50 hl rfl (nI_1 _) (by decide) rfl (fun ls hl => ?_)
              have hl : lv_has ls 4 [(3, .int (nI (t + 1))), (2, .int (nI (sp_c (fun t => decide (N 8 t = 2) && decide (N 7 t = a)) t))), (0, .ref (ra 0)), (1, .int (nI a))] := hl
              refine lv_goto (tgt := 14) hx hb dd_M_queued_53 rfl ?_
              have e9 : sp_c (fun t => decide (N 8 t = 2) && decide (N 7 t = a)) (t + 1) = sp_c (fun t => decide (N 8 t = 2) && decide (N 7 t = a)) t := by simp [sp_c, h19, Nat.not_le.mpr h19, h29, h39]
              exact ih (t + 1) ls (by omega) (by rw [e9]; exact lv_sub hl [2, 3, 1, 0] rfl)
            · refine lv_iload_n hx hb dd_M_queued_42 rfl (lv_at hl 2 rfl) ?_
              refine lv_iconst (v := nI 1) hx hb dd_M_queued_43 (by decide) ?_
              refine lv_iadd hx hb dd_M_queued_44 ?_
              rw [nI_add]
              refine lv_goto (tgt := 49) hx hb dd_M_queued_45 rfl ?_
              refine lv_istore_n hx hb dd_M_queued_49 rfl hl (by decide) rfl (fun ls hl => ?_)
              have hl : lv_has ls 4 [(2, .int (nI ((sp_c (fun t => decide (N 8 t = 2) && decide (N 7 t = a)) t) + 1))), (0, .ref (ra 0)), (1, .int (nI a)), (3, .int (nI t))] := hl
              refine lv_iinc (k := 3) (v := nI (t + 1)) hx hb dd_M_queued_50 hl rfl (nI_1 _) (by decide) rfl (fun ls hl => ?_)
              have hl : lv_has ls 4 [(3, .int (nI (t + 1))), (2, .int (nI ((sp_c (fun t => decide (N 8 t = 2) && decide (N 7 t = a)) t) + 1))), (0, .ref (ra 0)), (1, .int (nI a))] := hl
              refine lv_goto (tgt := 14) hx hb dd_M_queued_53 rfl ?_
              have e9 : sp_c (fun t => decide (N 8 t = 2) && decide (N 7 t = a)) (t + 1) = (sp_c (fun t => decide (N 8 t = 2) && decide (N 7 t = a)) t) + 1 := by simp [sp_c, h19, Nat.not_le.mpr h19, h29, h39]
              exact ih (t + 1) ls (by omega) (by rw [e9]; exact lv_sub hl [2, 3, 1, 0] rfl)
    refine lv_iconst (v := nI 0) hx hb dd_M_queued_10 (by decide) ?_
    refine lv_istore_n hx hb dd_M_queued_11 rfl hl (by decide) rfl (fun ls hl => ?_)
    have hl : lv_has ls 4 [(2, .int (nI 0)), (0, .ref (ra 0)), (1, .int (nI a))] := hl
    refine lv_iconst (v := nI 0) hx hb dd_M_queued_12 (by decide) ?_
    refine lv_istore_n hx hb dd_M_queued_13 rfl hl (by decide) rfl (fun ls hl => ?_)
    have hl : lv_has ls 4 [(3, .int (nI 0)), (2, .int (nI 0)), (0, .ref (ra 0)), (1, .int (nI a))] := hl
    exact lp (N 6 0) 0 ls (by omega) (lv_sub hl [2, 3, 1, 0] rfl)
  · refine lv_iconst (v := -1) hx hb dd_M_queued_8 (by decide) ?_
    exact W.iret hx hb hr (fun tt htt hWW => ⟨_, rfl, (by rw [am_queued, if_neg (by rw [h5]; decide)]), htt⟩) (fun _ h => by cases h) dd_M_queued_9

set_option maxHeartbeats 4000000 in
set_option maxRecDepth 100000 in
theorem rc_inTheWay (l : Launch) (D : va_G) (ra : Nat → Nat) (ca : Nat → ClassId) (N : sp_N) (O : sp_O) (Z : sp_Z) (B : sp_B) (hB : sp_Bd N O) (h3q : 3 ≤ N 1 0) (c9 q : Nat) (bar : Bool) (hc2 : c9 < 160) (hq2 : q < 12) : Met l my_M_inTheWay (Cond.code my_M_inTheWay cd_M_inTheWay 5 (some .boolean) :: bg_tbl) ({ frames := 1, cells := 0, slots := 0, locals := 24 }) (va_Pc [.ref (ra 0), .int (nI c9), .int (nI q), .int (bd_b bar)] (rf_U D ra ca N O Z B)) (vp_Si (fun r => r = bd_b (sp_x N B c9 q bar))) 0 0 (fun _ => False) := by
  refine Met.ofW (cc := cd_M_inTheWay) (maxL := 5) (ret := (some .boolean)) (by decide) rfl ?_
  intro p e s m args below meth c s₁ BB hml hv
  obtain ⟨rfl, hP, hK⟩ := hv
  have hx := BB.exec
  have hb := BB.bytes
  have hr := BB.returns
  have hts : ∀ w ∈ bg_tbl, w.before ([.ref (ra 0), .int (nI c9), .int (nI q), .int (bd_b bar)] : List Value).toArray s = true := fun w h => atoms_spec (ws := (Cond.code my_M_inTheWay cd_M_inTheWay 5 (some .boolean) :: bg_tbl)) BB.pre w (List.mem_cons_of_mem _ h)
  have hown : s.vm.findClass rn_M = some m.cls := findClass_of_methodNamed BB.named
  have hlocks := BB.notSynchronized
  obtain ⟨hB_0, hB_1, hB_2, hB_3, hB_4, hB_5, hB_6, hB_7, hB_8, hB_9, hB_10, hB_11, hB_12, hB_17⟩ := id hB
  have hl := lv_entry ([.ref (ra 0), .int (nI c9), .int (nI q), .int (bd_b bar)]) (n := 5) (Nat.le_of_ble_eq_true rfl)
  rw [lg_entry_eq]
  generalize (lg_sl ([.ref (ra 0), .int (nI c9), .int (nI q), .int (bd_b bar)]) ++ List.replicate (5 - (lg_sl ([.ref (ra 0), .int (nI c9), .int (nI q), .int (bd_b bar)])).length) Slot.unset).toArray = ls at hl ⊢
  have hl : lv_has ls 5 [(0, .ref (ra 0)), (1, .int (nI c9)), (2, .int (nI q)), (3, .int (bd_b bar))] := hl
  have lp : ∀ (n : Nat) (x : Nat) (ls : Array Slot), (n + x = N 1 0) → (3 ≤ x) → (sp_a (fun x => decide (3 ≤ x) && sp_l N q x && sp_l N (N 7 c9) x && (decide (N 3 x = 1) || (B 14 c9 && decide (N 7 c9 = x)) || (bar && decide (x = q)))) x = false) →  lv_has ls 5 [(0, .ref (ra 0)), (1, .int (nI c9)), (2, .int (nI q)), (3, .int (bd_b bar)), (4, .int (nI x))] → W p l e (headSpec (Cond.code my_M_inTheWay cd_M_inTheWay 5 (some .boolean) :: bg_tbl) ({ frames := 1, cells := 0, slots := 0, locals := 24 })).room s m ([.ref (ra 0), .int (nI c9), .int (nI q), .int (bd_b bar)] : List Value).toArray below meth c s.heap [] 0 0 (MQ below (vp_Si (fun r => r = bd_b (sp_x N B c9 q bar))) ([.ref (ra 0), .int (nI c9), .int (nI q), .int (bd_b bar)] : List Value).toArray s 0 0 (fun _ => False)) (F0 m 3 ls []) := by
    intro n
    induction n with
    | zero =>
      intro x ls hk hx3 hn hl
      refine lv_iload hx hb dd_M_inTheWay_3 (lv_at hl 4 rfl) ?_
      refine lv_aload_n hx hb dd_M_inTheWay_5 rfl (lv_at hl 0 rfl) ?_
      refine va_get (D := D) (ci := 4) (v := .int (nI (N 1 0))) (C := rn_M) (T := ft_M) (N := 19) hx hb hts tw_fs_M hown hK hP 0 rfl rfl 1 (by decide) (hts _ tw_fl_M_7) (fun _ h9 => h9) rfl dd_M_inTheWay_6 ?_
      refine bq_ge (tgt := 86) hx hb (by omega) (Nat.lt_of_le_of_lt hB_1 (by decide)) dd_M_inTheWay_9 rfl (fun h9 => ?_) (fun h9 => ?_)
      · refine lv_iconst (v := bd_b false) hx hb dd_M_inTheWay_86 (by decide) ?_
        exact W.zret (ty := .boolean) hx hb hr (bd_b_nar _) (fun tt htt hWW => ⟨_, rfl, (by rw [sp_x, ← show x = N 1 0 by omega, hn]), htt⟩) (fun _ h => by cases h) dd_M_inTheWay_87
      · exact absurd h9 (by omega)
    | succ n ih =>
      intro x ls hk hx3 hn hl
      refine lv_iload hx hb dd_M_inTheWay_3 (lv_at hl 4 rfl) ?_
      refine lv_aload_n hx hb dd_M_inTheWay_5 rfl (lv_at hl 0 rfl) ?_
      refine va_get (D := D) (ci := 4) (v := .int (nI (N 1 0))) (C := rn_M) (T := ft_M) (N := 19) hx hb hts tw_fs_M hown hK hP 0 rfl rfl 1 (by decide) (hts _ tw_fl_M_7) (fun _ h9 => h9) rfl dd_M_inTheWay_6 ?_
      refine bq_ge (tgt := 86) hx hb (by omega) (Nat.lt_of_le_of_lt hB_1 (by decide)) dd_M_inTheWay_9 rfl (fun h9 => ?_) (fun h9 => ?_)
      · exact absurd h9 (by omega)
      · refine lv_aload_n hx hb dd_M_inTheWay_12 rfl (lv_at hl 0 rfl) ?_
        refine lv_iload_n hx hb dd_M_inTheWay_13 rfl (lv_at hl 2 rfl) ?_
        refine lv_iload hx hb dd_M_inTheWay_14 (lv_at hl 4 rfl) ?_
        refine rf_calli (As := [.int (nI q), .int (nI x)]) (rest := []) (v := bd_b (sp_l N q x)) ⟨hx, hb, hml, hown, hts⟩ (rc_leads l D ra ca N O Z B hB q x hq2 (by omega)) (bg_cwV 2 hts tw_ml_M_64 tw_im_M_leads tw_se_M_leads tw_in_M tw_co_M_leads rfl rfl th_M_leads ⟨Nat.le_of_ble_eq_true rfl, Nat.le_of_ble_eq_true rfl⟩) hK hP rfl hl.1 rfl (by decide) dd_M_inTheWay_16 ⟨Nat.zero_le _, Nat.zero_le _⟩ ?_
        refine bq_zeq (tgt := 80) hx hb dd_M_inTheWay_19 rfl (fun h19 => ?_) (fun h19 => ?_)
        · refine lv_iinc (k := 4) (v := nI (x + 1)) hx hb dd_M_inTheWay_80 hl rfl (nI_1 _) (by decide) rfl (fun ls hl => ?_)
          have hl : lv_has ls 5 [(4, .int (nI (x + 1))), (0, .ref (ra 0)), (1, .int (nI c9)), (2, .int (nI q)), (3, .int (bd_b bar))] := hl
          refine lv_goto (tgt := 3) hx hb dd_M_inTheWay_83 rfl ?_
          exact ih (x + 1) ls (by omega) (by omega) (sp_a_s hn (by simp only [decide_eq_true hx3, h19, Bool.and_true, Bool.true_and, Bool.and_false, Bool.false_and, Bool.or_true, Bool.true_or, Bool.or_false, Bool.false_or, Bool.and_self, Bool.or_self])) (lv_sub hl [1, 2, 3, 4, 0] rfl)
        · refine lv_aload_n hx hb dd_M_inTheWay_22 rfl (lv_at hl 0 rfl) ?_
          refine lv_aload_n hx hb dd_M_inTheWay_23 rfl (lv_at hl 0 rfl) ?_
          refine va_get (D := D) (ci := 4) (v := .ref (ra 7)) (C := rn_M) (T := ft_M) (N := 19) hx hb hts tw_fs_M hown hK hP 0 rfl rfl 7 (by decide) (hts _ tw_fl_M_26) (fun _ h9 => h9) rfl dd_M_inTheWay_24 ?_
          refine lv_iload_n hx hb dd_M_inTheWay_27 rfl (lv_at hl 1 rfl) ?_
          refine bq_iald hx hb hK hP 5 4 rfl rfl hc2 (by decide) dd_M_inTheWay_28 ?_
          refine lv_iload hx hb dd_M_inTheWay_29 (lv_at hl 4 rfl) ?_
          refine rf_calli (As := [.int (nI (N 7 c9)), .int (nI x)]) (rest := []) (v := bd_b (sp_l N (N 7 c9) x)) ⟨hx, hb, hml, hown, hts⟩ (rc_leads l D ra ca N O Z B hB (N 7 c9) x (hB_7 c9) (by omega)) (bg_cwV 2 hts tw_ml_M_64 tw_im_M_leads tw_se_M_leads tw_in_M tw_co_M_leads rfl rfl th_M_leads ⟨Nat.le_of_ble_eq_true rfl, Nat.le_of_ble_eq_true rfl⟩) hK hP rfl hl.1 rfl (by decide) dd_M_inTheWay_31 ⟨Nat.zero_le _, Nat.zero_le _⟩ ?_
          refine bq_zeq (tgt := 80) hx hb dd_M_inTheWay_34 rfl (fun h34 => ?_) (fun h34 => ?_)
          · refine lv_iinc (k := 4) (v := nI (x + 1)) hx hb dd_M_inTheWay_80 hl rfl (nI_1 _) (by decide) rfl (fun ls hl => ?_)
            have hl : lv_has ls 5 [(4, .int (nI (x + 1))), (0, .ref (ra 0)), (1, .int (nI c9)), (2, .int (nI q)), (3, .int (bd_b bar))] := hl
            refine lv_goto (tgt := 3) hx hb dd_M_inTheWay_83 rfl ?_
            exact ih (x + 1) ls (by omega) (by omega) (sp_a_s hn (by simp only [decide_eq_true hx3, h19, h34, Bool.and_true, Bool.true_and, Bool.and_false, Bool.false_and, Bool.or_true, Bool.true_or, Bool.or_false, Bool.false_or, Bool.and_self, Bool.or_self])) (lv_sub hl [1, 2, 3, 4, 0] rfl)
          · refine lv_aload_n hx hb dd_M_inTheWay_37 rfl (lv_at hl 0 rfl) ?_
            refine va_get (D := D) (ci := 4) (v := .ref (ra 3)) (C := rn_M) (T := ft_M) (N := 19) hx hb hts tw_fs_M hown hK hP 0 rfl rfl 3 (by decide) (hts _ tw_fl_M_17) (fun _ h9 => h9) rfl dd_M_inTheWay_38 ?_
            refine lv_iload hx hb dd_M_inTheWay_41 (lv_at hl 4 rfl) ?_
            refine bq_iald hx hb hK hP 2 1 rfl rfl (by omega) (by decide) dd_M_inTheWay_43 ?_
            refine lv_iconst (v := nI 1) hx hb dd_M_inTheWay_44 (by decide) ?_
            refine bq_eq (tgt := 78) hx hb (Nat.lt_of_le_of_lt (hB_3 x) (by decide)) (by decide) dd_M_inTheWay_45 rfl (fun h45 => ?_) (fun h45 => ?_)
            · refine lv_iconst (v := bd_b true) hx hb dd_M_inTheWay_78 (by decide) ?_
              exact W.zret (ty := .boolean) hx hb hr (bd_b_nar _) (fun tt htt hWW => ⟨_, rfl, (by rw [sp_x, sp_a_iff.mpr ⟨x, by omega, by simp only [decide_eq_true hx3, h19, h34, decide_eq_true h45, Bool.and_true, Bool.true_and, Bool.and_false, Bool.false_and, Bool.or_true, Bool.true_or, Bool.or_false, Bool.false_or, Bool.and_self, Bool.or_self]⟩]), htt⟩) (fun _ h => by cases h) dd_M_inTheWay_79
            · refine lv_aload_n hx hb dd_M_inTheWay_48 rfl (lv_at hl 0 rfl) ?_
              refine va_get (D := D) (ci := 4) (v := .ref (ra 14)) (C := rn_M) (T := ft_M) (N := 19) hx hb hts tw_fs_M hown hK hP 0 rfl rfl 14 (by decide) (hts _ tw_fl_M_48) (fun _ h9 => h9) rfl dd_M_inTheWay_49 ?_
              refine lv_iload_n hx hb dd_M_inTheWay_52 rfl (lv_at hl 1 rfl) ?_
              refine bq_zald hx hb hK hP 12 11 rfl rfl hc2 (by decide) dd_M_inTheWay_53 ?_
              refine bq_zeq (tgt := 68) hx hb dd_M_inTheWay_54 rfl (fun h54 => ?_) (fun h54 => ?_)
              · refine lv_iload_n hx hb dd_M_inTheWay_68 rfl (lv_at hl 3 rfl) ?_
                refine bq_zeq (tgt := 80) hx hb dd_M_inTheWay_69 rfl (fun h69 => ?_) (fun h69 => ?_)
                · refine lv_iinc (k := 4) (v := nI (x + 1)) hx hb dd_M_inTheWay_80 hl rfl (nI_1 _) (by decide) rfl (fun ls hl => ?_)
                  have hl : lv_has ls 5 [(4, .int (nI (x + 1))), (0, .ref (ra 0)), (1, .int (nI c9)), (2, .int (nI q)), (3, .int (bd_b bar))] := hl
                  refine lv_goto (tgt := 3) hx hb dd_M_inTheWay_83 rfl ?_
                  exact ih (x + 1) ls (by omega) (by omega) (sp_a_s hn (by simp only [decide_eq_true hx3, h19, h34, decide_eq_false h45, h54, h69, Bool.and_true, Bool.true_and, Bool.and_false, Bool.false_and, Bool.or_true, Bool.true_or, Bool.or_false, Bool.false_or, Bool.and_self, Bool.or_self])) (lv_sub hl [1, 2, 3, 4, 0] rfl)
                · refine lv_iload hx hb dd_M_inTheWay_72 (lv_at hl 4 rfl) ?_
                  refine lv_iload_n hx hb dd_M_inTheWay_74 rfl (lv_at hl 2 rfl) ?_
                  refine bq_ne (tgt := 80) hx hb (by omega) (by omega) dd_M_inTheWay_75 rfl (fun h75 => ?_) (fun h75 => ?_)
                  · refine lv_iinc (k := 4) (v := nI (x + 1)) hx hb dd_M_inTheWay_80 hl rfl (nI_1 _) (by decide) rfl (fun ls hl => ?_)
                    have hl : lv_has ls 5 [(4, .int (nI (x + 1))), (0, .ref (ra 0)), (1, .int (nI c9)), (2, .int (nI q)), (3, .int (bd_b bar))] := hl
                    refine lv_goto (tgt := 3) hx hb dd_M_inTheWay_83 rfl ?_
                    exact ih (x + 1) ls (by omega) (by omega) (sp_a_s hn (by simp only [decide_eq_true hx3, h19, h34, decide_eq_false h45, h54, h69, decide_eq_false h75, Bool.and_true, Bool.true_and, Bool.and_false, Bool.false_and, Bool.or_true, Bool.true_or, Bool.or_false, Bool.false_or, Bool.and_self, Bool.or_self])) (lv_sub hl [1, 2, 3, 4, 0] rfl)
                  · refine lv_iconst (v := bd_b true) hx hb dd_M_inTheWay_78 (by decide) ?_
                    exact W.zret (ty := .boolean) hx hb hr (bd_b_nar _) (fun tt htt hWW => ⟨_, rfl, (by rw [sp_x, sp_a_iff.mpr ⟨x, by omega, by simp only [decide_eq_true hx3, h19, h34, decide_eq_false h45, h54, h69, decide_eq_true h75, Bool.and_true, Bool.true_and, Bool.and_false, Bool.false_and, Bool.or_true, Bool.true_or, Bool.or_false, Bool.false_or, Bool.and_self, Bool.or_self]⟩]), htt⟩) (fun _ h => by cases h) dd_M_inTheWay_79
              · refine lv_aload_n hx hb dd_M_inTheWay_57 rfl (lv_at hl 0 rfl) ?_
                refine va_get (D := D) (ci := 4) (v := .ref (ra 7)) (C := rn_M) (T := ft_M) (N := 19) hx hb hts tw_fs_M hown hK hP 0 rfl rfl 7 (by decide) (hts _ tw_fl_M_26) (fun _ h9 => h9) rfl dd_M_inTheWay_58 ?_
                refine lv_iload_n hx hb dd_M_inTheWay_61 rfl (lv_at hl 1 rfl) ?_
                refine bq_iald hx hb hK hP 5 4 rfl rfl hc2 (by decide) dd_M_inTheWay_62 ?_
                refine lv_iload hx hb dd_M_inTheWay_63 (lv_at hl 4 rfl) ?_
                refine bq_eq (tgt := 78) hx hb (Nat.lt_trans (hB_7 c9) (by decide)) (by omega) dd_M_inTheWay_65 rfl (fun h65 => ?_) (fun h65 => ?_)
                · refine lv_iconst (v := bd_b true) hx hb dd_M_inTheWay_78 (by decide) ?_
                  exact W.zret (ty := .boolean) hx hb hr (bd_b_nar _) (fun tt htt hWW => ⟨_, rfl, (by rw [sp_x, sp_a_iff.mpr ⟨x, by omega, by simp only [decide_eq_true hx3, h19, h34, decide_eq_false h45, h54, decide_eq_true h65, Bool.and_true, Bool.true_and, Bool.and_false, Bool.false_and, Bool.or_true, Bool.true_or, Bool.or_false, Bool.false_or, Bool.and_self, Bool.or_self]⟩]), htt⟩) (fun _ h => by cases h) dd_M_inTheWay_79
                · refine lv_iload_n hx hb dd_M_inTheWay_68 rfl (lv_at hl 3 rfl) ?_
                  refine bq_zeq (tgt := 80) hx hb dd_M_inTheWay_69 rfl (fun h69 => ?_) (fun h69 => ?_)
                  · refine lv_iinc (k := 4) (v := nI (x + 1)) hx hb dd_M_inTheWay_80 hl rfl (nI_1 _) (by decide) rfl (fun ls hl => ?_)
                    have hl : lv_has ls 5 [(4, .int (nI (x + 1))), (0, .ref (ra 0)), (1, .int (nI c9)), (2, .int (nI q)), (3, .int (bd_b bar))] := hl
                    refine lv_goto (tgt := 3) hx hb dd_M_inTheWay_83 rfl ?_
                    exact ih (x + 1) ls (by omega) (by omega) (sp_a_s hn (by simp only [decide_eq_true hx3, h19, h34, decide_eq_false h45, h54, decide_eq_false h65, h69, Bool.and_true, Bool.true_and, Bool.and_false, Bool.false_and, Bool.or_true, Bool.true_or, Bool.or_false, Bool.false_or, Bool.and_self, Bool.or_self])) (lv_sub hl [1, 2, 3, 4, 0] rfl)
                  · refine lv_iload hx hb dd_M_inTheWay_72 (lv_at hl 4 rfl) ?_
                    refine lv_iload_n hx hb dd_M_inTheWay_74 rfl (lv_at hl 2 rfl) ?_
                    refine bq_ne (tgt := 80) hx hb (by omega) (by omega) dd_M_inTheWay_75 rfl (fun h75 => ?_) (fun h75 => ?_)
                    · refine lv_iinc (k := 4) (v := nI (x + 1)) hx hb dd_M_inTheWay_80 hl rfl (nI_1 _) (by decide) rfl (fun ls hl => ?_)
                      have hl : lv_has ls 5 [(4, .int (nI (x + 1))), (0, .ref (ra 0)), (1, .int (nI c9)), (2, .int (nI q)), (3, .int (bd_b bar))] := hl
                      refine lv_goto (tgt := 3) hx hb dd_M_inTheWay_83 rfl ?_
                      exact ih (x + 1) ls (by omega) (by omega) (sp_a_s hn (by simp only [decide_eq_true hx3, h19, h34, decide_eq_false h45, h54, decide_eq_false h65, h69, decide_eq_false h75, Bool.and_true, Bool.true_and, Bool.and_false, Bool.false_and, Bool.or_true, Bool.true_or, Bool.or_false, Bool.false_or, Bool.and_self, Bool.or_self])) (lv_sub hl [1, 2, 3, 4, 0] rfl)
                    · refine lv_iconst (v := bd_b true) hx hb dd_M_inTheWay_78 (by decide) ?_
                      exact W.zret (ty := .boolean) hx hb hr (bd_b_nar _) (fun tt htt hWW => ⟨_, rfl, (by rw [sp_x, sp_a_iff.mpr ⟨x, by omega, by simp only [decide_eq_true hx3, h19, h34, decide_eq_false h45, h54, decide_eq_false h65, h69, decide_eq_true h75, Bool.and_true, Bool.true_and, Bool.and_false, Bool.false_and, Bool.or_true, Bool.true_or, Bool.or_false, Bool.false_or, Bool.and_self, Bool.or_self]⟩]), htt⟩) (fun _ h => by cases h) dd_M_inTheWay_79
  refine lv_iconst (v := nI 3) hx hb dd_M_inTheWay_0 (by decide) ?_
  refine lv_istore hx hb dd_M_inTheWay_1 hl (by decide) rfl (fun ls hl => ?_)
  have hl : lv_has ls 5 [(4, .int (nI 3)), (0, .ref (ra 0)), (1, .int (nI c9)), (2, .int (nI q)), (3, .int (bd_b bar))] := hl
  exact lp (N 1 0 - 3) 3 ls (by omega) (by omega) (by simp [sp_a]) (lv_sub hl [1, 2, 3, 4, 0] rfl)
end
section
/-! Part 14: what the public methods answer and write, in numbers; calls of methods that write. -/
def bd_at (q : Int32) (n : Nat) : Option Nat := if bd_in q n = true then some q.toNatClampNeg else none
def bd_wd (w : Int32) : Option Nat := if w < nI 1 then none else if w ≤ nI 8 then some w.toNatClampNeg else none
/-- a group, or -1 for none of them -/
def bd_gr (g : Int32) : Option (Option Nat) := if g < -1 then none else if g ≤ nI 3 then some (if g = -1 then none else some g.toNatClampNeg) else none
theorem bd_at_none {q : Int32} {n : Nat} (h : bd_in q n = false) : bd_at q n = none := by rw [bd_at, if_neg (by rw [h]; decide)]
theorem bd_at_in {a n : Nat} (h : a < n) (hn : n < 2 ^ 31) : bd_at (nI a) n = some a := by
  rw [bd_at, bd_in_nI (by omega), decide_eq_true h, nI_clamp (by omega)]
  rfl
theorem bd_at_some {q : Int32} {n a : Nat} (hn : n < 2 ^ 31) (h : bd_at q n = some a) : a < n ∧ q = nI a := by
  unfold bd_at at h
  split at h
  · rename_i h1
    obtain ⟨b, hb, rfl⟩ := bd_in_of h1 hn
    rw [nI_clamp (by omega)] at h
    cases h
    exact ⟨hb, rfl⟩
  · cases h
theorem bd_wd_1 {w : Int32} (h : w < nI 1) : bd_wd w = none := by rw [bd_wd, if_pos h]
theorem bd_wd_2 {w : Int32} (h : ¬ w ≤ nI 8) : bd_wd w = none := by
  rw [bd_wd, if_neg h]
  split <;> rfl
theorem bd_wd_3 {w : Int32} (h1 : ¬ w < nI 1) (h2 : w ≤ nI 8) : ∃ b, 1 ≤ b ∧ b ≤ 8 ∧ w = nI b ∧ bd_wd w = some b := by
  have h3 : ¬ w.toInt < 1 := fun z => h1 (Int32.lt_iff_toInt_lt.mpr (by rw [nI_toInt (by decide)]; exact z))
  have h4 := Int32.le_iff_toInt_le.mp h2
  rw [nI_toInt (by decide)] at h4
  obtain ⟨b, hb, rfl⟩ := vp_in_of (n := 9) (x := w) (vp_in_iff.mpr ⟨by omega, by omega⟩) (by decide)
  rw [nI_toInt (by omega)] at h3 h4
  refine ⟨b, by omega, by omega, rfl, ?_⟩
  rw [bd_wd, if_neg h1, if_pos h2, nI_clamp (by omega)]
theorem bd_gr_1 {g : Int32} (h : g < -1) : bd_gr g = none := by rw [bd_gr, if_pos h]
theorem bd_gr_2 {g : Int32} (h : ¬ g ≤ nI 3) : bd_gr g = none := by
  rw [bd_gr, if_neg h]
  split <;> rfl
theorem bd_gr_3 {g : Int32} (h1 : ¬ g < -1) (h2 : g ≤ nI 3) : ∃ o : Option Nat, (∀ k, o = some k → k < 4) ∧ g = bd_o o ∧ bd_gr g = some o := by
  by_cases hg : g = -1
  · subst hg
    exact ⟨none, fun k h => (by cases h), rfl, by decide⟩
  · have e1 : (-1 : Int32).toInt = -1 := by decide
    have h3 : ¬ g.toInt < -1 := fun z => h1 (Int32.lt_iff_toInt_lt.mpr (by rw [e1]; exact z))
    have h4 := Int32.le_iff_toInt_le.mp h2
    rw [nI_toInt (by decide)] at h4
    have h5 : ¬ g.toInt = -1 := fun z => hg (Int32.toInt_inj.mp (by rw [e1]; exact z))
    obtain ⟨b, hb, rfl⟩ := vp_in_of (n := 4) (x := g) (vp_in_iff.mpr ⟨by omega, by omega⟩) (by decide)
    refine ⟨some b, fun k h => (by cases h; omega), rfl, ?_⟩
    rw [bd_gr, if_neg h1, if_pos h2, if_neg hg, nI_clamp (by omega)]
/-- queue -/
def am_queue (N : sp_N) (q w : Option Nat) : Int32 := match q, w with
  | none, _ => -1
  | some _, none => -9
  | some _, some _ => if N 1 0 = 12 then -4 else nI (N 1 0)
def nm_queue (N : sp_N) (q w : Option Nat) : sp_N := match q, w with
  | some a, some b => if N 1 0 = 12 then N else sp_u (sp_u (sp_u N 2 (N 1 0) a) 3 (N 1 0) b) 1 0 (N 1 0 + 1)
  | none, _ => N
  | some _, none => N
/-- retarget -/
def am_retarget (N : sp_N) (q t : Option Nat) : Int32 := match q with
  | none => -1
  | some a => if a < 3 then -1 else match t with
    | none => -1
    | some b => if sp_l N b a = true then -5 else if 0 < sp_p N a then -6 else nI 0
def nm_retarget (N : sp_N) (q t : Option Nat) : sp_N := match q with
  | none => N
  | some a => if a < 3 then N else match t with
    | none => N
    | some b => if sp_l N b a = true then N else if 0 < sp_p N a then N else sp_u N 2 a b
/-- accept, then what is given -/
def am_new (N : sp_N) (q : Option Nat) : Int32 := match q with
  | none => -1
  | some _ => if N 6 0 = 160 then -4 else nI (N 6 0)
def am_submit (N : sp_N) (q : Option Nat) (g : Option (Option Nat)) : Int32 := match q, g with
  | none, _ => -1
  | some _, none => -2
  | some _, some _ => if N 6 0 = 160 then -4 else nI (N 6 0)
def nm_submit (N : sp_N) (q : Option Nat) (g : Option (Option Nat)) : sp_N := match q, g with
  | some a, some _ => if N 6 0 = 160 then N else sp_L (sp_AN N a) (N 6 0)
  | none, _ => N
  | some _, none => N
def om_submit (N : sp_N) (O : sp_O) (q : Option Nat) (g : Option (Option Nat)) : sp_O := match q, g with
  | some _, some o => if N 6 0 = 160 then O else sp_u (sp_AO N O) 10 (N 6 0) o
  | none, _ => O
  | some _, none => O
def bm_submit (N : sp_N) (B : sp_B) (q : Option Nat) (bar : Bool) (g : Option (Option Nat)) : sp_B := match q, g with
  | some a, some _ => if N 6 0 = 160 then B else sp_AB N B a bar
  | none, _ => B
  | some _, none => B
/-- after -/
def nm_after (N : sp_N) (q : Option Nat) (d : Int64) : sp_N := match q with
  | none => N
  | some a => if N 6 0 = 160 then N else if d ≤ 0 then sp_L (sp_AN N a) (N 6 0) else sp_AN N a
def om_after (N : sp_N) (O : sp_O) (q : Option Nat) : sp_O := match q with
  | none => O
  | some _ => if N 6 0 = 160 then O else sp_AO N O
def bm_after (N : sp_N) (B : sp_B) (q : Option Nat) : sp_B := match q with
  | none => B
  | some a => if N 6 0 = 160 then B else sp_AB N B a false
def zm_dl (Z : sp_Z) (d : Int64) : Int64 := if d < 9223372036854775807 - Z 18 0 then Z 18 0 + d else 9223372036854775807
def zm_after (N : sp_N) (Z : sp_Z) (q : Option Nat) (d : Int64) : sp_Z := match q with
  | none => Z
  | some _ => if N 6 0 = 160 then Z else if d ≤ 0 then Z else sp_u Z 13 (N 6 0) (zm_dl Z d)
/-- call: is one of the callers in the way -/
def sp_dl (N : sp_N) (O : sp_O) (B : sp_B) (q : Nat) (bar : Bool) : Nat → Option Nat → Bool
  | 0, _ => false
  | _ + 1, none => false
  | n + 1, some c => if sp_x N B c q bar = true then true else sp_dl N O B q bar n (O 9 c)
def am_call (N : sp_N) (O : sp_O) (B : sp_B) (c q : Option Nat) (bar : Bool) : Int32 := match c with
  | none => -3
  | some a => if N 8 a = 3 then match q with
      | none => -1
      | some b => if sp_dl N O B b bar 160 (some a) = true then -7 else if N 6 0 = 160 then -4 else nI (N 6 0)
    else -3
/-- the call is taken -/
def ok_call (N : sp_N) (O : sp_O) (B : sp_B) (c q : Option Nat) (bar : Bool) : Option (Nat × Nat) := match c with
  | none => none
  | some a => if N 8 a = 3 then match q with
      | none => none
      | some b => if sp_dl N O B b bar 160 (some a) = true then none else if N 6 0 = 160 then none else some (a, b)
    else none
def nm_call (N : sp_N) (o : Option (Nat × Nat)) : sp_N := match o with
  | none => N
  | some (a, b) => sp_L (sp_u (sp_AN N b) 8 a 4) (N 6 0)
def om_call (N : sp_N) (O : sp_O) (o : Option (Nat × Nat)) : sp_O := match o with
  | none => O
  | some (a, _) => sp_u (sp_AO N O) 9 (N 6 0) (some a)
def bm_call (N : sp_N) (B : sp_B) (bar : Bool) (o : Option (Nat × Nat)) : sp_B := match o with
  | none => B
  | some (_, b) => sp_AB N B b bar
/-- whenDone -/
def am_when (N : sp_N) (g q : Option Nat) : Int32 := match g with
  | none => -2
  | some _ => am_new N q
def nm_when (N : sp_N) (O : sp_O) (g q : Option Nat) : sp_N := match g, q with
  | some k, some a => if N 6 0 = 160 then N else if sp_g (sp_AN N a) (sp_u (sp_AO N O) 11 (N 6 0) (some k)) k = 0 then sp_L (sp_AN N a) (N 6 0) else sp_u (sp_AN N a) 8 (N 6 0) 0
  | none, _ => N
  | some _, none => N
def om_when (N : sp_N) (O : sp_O) (g q : Option Nat) : sp_O := match g, q with
  | some k, some _ => if N 6 0 = 160 then O else sp_u (sp_AO N O) 11 (N 6 0) (some k)
  | none, _ => O
  | some _, none => O
def bm_when (N : sp_N) (B : sp_B) (g q : Option Nat) : sp_B := match g, q with
  | some _, some a => if N 6 0 = 160 then B else sp_AB N B a false
  | none, _ => B
  | some _, none => B
/-- enter, leave, cancel, hold, finish -/
def am_enter (N : sp_N) (g : Option Nat) : Bool := match g with
  | none => false
  | some k => decide (N 17 k < 200)
def nm_enter (N : sp_N) (g : Option Nat) : sp_N := match g with
  | none => N
  | some k => if N 17 k < 200 then sp_u N 17 k (N 17 k + 1) else N
def am_leave (N : sp_N) (g : Option Nat) : Bool := match g with
  | none => false
  | some k => !decide (N 17 k = 0)
def nm_leave (N : sp_N) (O : sp_O) (g : Option Nat) : sp_N := match g with
  | none => N
  | some k => if N 17 k = 0 then N else sp_S (sp_u N 17 k (N 17 k - 1)) O k
def am_cancel (N : sp_N) (B : sp_B) (t : Option Nat) : Bool := match t with
  | none => false
  | some a => decide (N 8 a ≤ 2) && !B 15 a
def bm_cancel (N : sp_N) (B : sp_B) (t : Option Nat) : sp_B := match t with
  | none => B
  | some a => if N 8 a ≤ 2 then if B 15 a = true then B else sp_u B 15 a true else B
def am_hold (N : sp_N) (q : Option Nat) (on : Bool) : Int32 := match q with
  | none => -1
  | some a => if a < 3 then -1 else if on = true then if N 4 a = 100 then -4 else nI (N 4 a + 1) else if N 4 a = 0 then -8 else nI (N 4 a - 1)
def nm_hold (N : sp_N) (q : Option Nat) (on : Bool) : sp_N := match q with
  | none => N
  | some a => if a < 3 then N else if on = true then if N 4 a = 100 then N else sp_u N 4 a (N 4 a + 1) else if N 4 a = 0 then N else sp_u N 4 a (N 4 a - 1)
def am_finish (N : sp_N) (t : Option Nat) : Bool := match t with
  | none => false
  | some a => decide (N 8 a = 3)
def nm_finish (N : sp_N) (O : sp_O) (t : Option Nat) : sp_N := match t with
  | none => N
  | some a => if N 8 a = 3 then sp_E N O a 5 else N
/-- begin: the cancelled ones first -/
def sp_bf (O : sp_O) (B : sp_B) : Nat → sp_N → sp_N
  | 0, N => N
  | f + 1, N => match sp_h N O B (N 6 0) with
    | none => N
    | some t => if B 15 t = true then sp_bf O B f (sp_E N O t 6) else N
def sp_pk (N : sp_N) : Nat → sp_N
  | 0 => N
  | x + 1 => sp_u (sp_pk N x) 5 x (if sp_p (sp_pk N x) x ≤ sp_pk N x 5 x then sp_pk N x 5 x else sp_p (sp_pk N x) x)
def sp_st (N : sp_N) (o : Option Nat) : sp_N := match o with
  | none => N
  | some t => sp_pk (sp_u N 8 t 3) (N 1 0)
def am_st (o : Option Nat) : Int32 := match o with
  | none => -8
  | some t => nI t
def am_begin (N : sp_N) (O : sp_O) (B : sp_B) : Int32 := am_st (sp_h (sp_bf O B 161 N) O B (sp_bf O B 161 N 6 0))
def nm_begin (N : sp_N) (O : sp_O) (B : sp_B) : sp_N := sp_st (sp_bf O B 161 N) (sp_h (sp_bf O B 161 N) O B (sp_bf O B 161 N 6 0))
/-- advance -/
def zm_adv (Z : sp_Z) (d : Int64) : sp_Z := if d < 0 then Z else sp_u Z 18 0 (if d ≤ 9223372036854775806 - Z 18 0 then Z 18 0 + d else 9223372036854775806)
def sp_av (Z : sp_Z) : Nat → sp_N → sp_N
  | 0, N => N
  | f + 1, N => match sp_d N Z (N 6 0) with
    | none => N
    | some t => sp_av Z f (sp_L N t)
def sp_ac (Z : sp_Z) : Nat → sp_N → Nat
  | 0, _ => 0
  | f + 1, N => match sp_d N Z (N 6 0) with
    | none => 0
    | some t => sp_ac Z f (sp_L N t) + 1
def am_adv (N : sp_N) (Z : sp_Z) (d : Int64) : Int32 := if d < 0 then -9 else nI (sp_ac (zm_adv Z d) 160 N)
def nm_adv (N : sp_N) (Z : sp_Z) (d : Int64) : sp_N := if d < 0 then N else sp_av (zm_adv Z d) 160 N
/-- bounds along the way -/
def sp_okb (O : sp_O) (B : sp_B) : Nat → sp_N → Prop
  | 0, N => sp_Bd N O
  | f + 1, N => sp_Bd N O ∧ ∀ t, sp_h N O B (N 6 0) = some t → B 15 t = true → sp_okb O B f (sp_E N O t 6)
def sp_oka (O : sp_O) (Z : sp_Z) : Nat → sp_N → Prop
  | 0, N => sp_Bd N O
  | f + 1, N => sp_Bd N O ∧ ∀ t, sp_d N Z (N 6 0) = some t → sp_oka O Z f (sp_L N t)
theorem sp_Bd_8 {N : sp_N} {O : sp_O} (h : sp_Bd N O) (t v : Nat) (hv : v < 7) : sp_Bd (sp_u N 8 t v) O := by
  obtain ⟨h0, h1, h2, h3, h4, h5, h6, h7, h8, h9, h10, h11, h12, h17⟩ := h
  refine ⟨h0, h1, h2, h3, h4, h5, h6, h7, fun j => ?_, h9, h10, h11, h12, h17⟩
  rw [sp_u_app]
  split
  · exact hv
  · exact h8 j
theorem sp_Bd_17 {N : sp_N} {O : sp_O} (h : sp_Bd N O) (t v : Nat) (hv : v ≤ 200) : sp_Bd (sp_u N 17 t v) O := by
  obtain ⟨h0, h1, h2, h3, h4, h5, h6, h7, h8, h9, h10, h11, h12, h17⟩ := h
  refine ⟨h0, h1, h2, h3, h4, h5, h6, h7, h8, h9, h10, h11, h12, fun j => ?_⟩
  rw [sp_u_app]
  split
  · exact hv
  · exact h17 j
theorem sp_Bd_C {N : sp_N} {O : sp_O} (h : sp_Bd N O) (t : Nat) : sp_Bd (sp_C N O t) O := by
  unfold sp_C
  split
  · exact h
  · exact sp_Bd_8 h _ _ (by decide)
theorem sp_Bd_5 {N : sp_N} {O : sp_O} (h : sp_Bd N O) (t v : Nat) (hv : v ≤ 160) : sp_Bd (sp_u N 5 t v) O := by
  obtain ⟨h0, h1, h2, h3, h4, h5, h6, h7, h8, h9, h10, h11, h12, h17⟩ := h
  refine ⟨h0, h1, h2, h3, h4, fun j => ?_, h6, h7, h8, h9, h10, h11, h12, h17⟩
  rw [sp_u_app]
  split
  · exact hv
  · exact h5 j
theorem sp_Bd_A {N : sp_N} {O : sp_O} (h : sp_Bd N O) (h6l : N 6 0 < 160) {q k : Nat} (hq : q < 12) (hk : k < 4) : sp_Bd (sp_AN N q) (sp_u (sp_AO N O) 11 (N 6 0) (some k)) := by
  obtain ⟨h0, h1, h2, h3, h4, h5, h6, h7, h8, h9, h10, h11, h12, h17⟩ := h
  refine ⟨h0, h1, h2, h3, h4, h5, ?_, fun t => ?_, fun t => ?_, fun t c hc => ?_, fun t c hc => ?_, fun t c hc => ?_, h12, h17⟩
  · show N 6 0 + 1 ≤ 160
    omega
  · show sp_u (sp_u N 6 0 (N 6 0 + 1)) 7 (N 6 0) q 7 t < 12
    rw [sp_u_app]
    split
    · exact hq
    · exact h7 t
  · show sp_u (sp_u (sp_u N 6 0 (N 6 0 + 1)) 7 (N 6 0) q) 8 (N 6 0) 1 8 t < 7
    rw [sp_u_app]
    split
    · decide
    · exact h8 t
  · have hc : sp_u O 9 (N 6 0) none 9 t = some c := hc
    rw [sp_u_app] at hc
    split at hc
    · cases hc
    · exact h9 t c hc
  · have hc : sp_u (sp_u O 9 (N 6 0) none) 10 (N 6 0) none 10 t = some c := hc
    rw [sp_u_app] at hc
    split at hc
    · cases hc
    · exact h10 t c hc
  · rw [sp_u_app] at hc
    split at hc
    · cases hc; exact hk
    · have hc : sp_u (sp_u (sp_u O 9 (N 6 0) none) 10 (N 6 0) none) 11 (N 6 0) none 11 t = some c := hc
      rw [sp_u_app] at hc
      split at hc
      · cases hc
      · exact h11 t c hc
theorem sp_g_lt {N : sp_N} {O : sp_O} (h : sp_Bd N O) (g : Nat) : sp_g N O g < 2 ^ 31 := by
  obtain ⟨-, -, -, -, -, -, h6, -, -, -, -, -, -, h17⟩ := h
  have h1 := sp_c_le (fun t => decide (O 10 t = some g) && decide (N 8 t < 5)) (N 6 0)
  have h2 := h17 g
  unfold sp_g
  omega
theorem sp_okb_Bd {O : sp_O} {B : sp_B} : ∀ {f : Nat} {N : sp_N}, sp_okb O B f N → sp_Bd N O
  | 0, _, h => h
  | _ + 1, _, h => h.1
theorem sp_oka_Bd {O : sp_O} {Z : sp_Z} : ∀ {f : Nat} {N : sp_N}, sp_oka O Z f N → sp_Bd N O
  | 0, _, h => h
  | _ + 1, _, h => h.1
section RW
variable {p : Program} {l : Launch} {e : Env} {R : Room} {s : State} {m : MethodId} {args : Array Value} {below : List Frame} {meth : Method} {c : Code} {H H0 : Heap} {locs : List Loc} {cells slots : Nat} {Q : State → Prop}
variable {cc bytes : ByteArray} {pc nL maxL index n : Nat} {ls : Array Slot} {rest st0 : List Value} {D : va_G} {ra : Nat → Nat} {ca : Nat → ClassId} {N N' : sp_N} {O O' : sp_O} {Z Z' : sp_Z} {B B' : sp_B} {Ts ws : List Cond} {y : MethodName} {ret : Option FieldType} {rm : Room} {As : List Value}
/-- a call, inside the reference, of a method that writes and answers v -/
theorem rf_callwi {v : Int32} (S : CallFix p m c cc nL s args Ts rn_M) (hM : Met l y ws rm (va_Pc (.ref (ra 0) :: As) (rf_U D ra ca N O Z B)) (va_Qi (fun r (_ : Unit) => r = v) (fun _ t => rf_U D ra ca N' O' Z' B' t) (rf_A ra)) 0 0 (rf_A ra)) (cw : CallW R s args rn_M rn_M index y bytes maxL ret ws rm 0 0 n) (hK : va_K D vw_cl (rf_T ca) s) (hP : va_P D vw_cl (rf_W ra ca N O Z B) H) (hS : va_S (rf_A ra) H0 H locs) (hn : As.length = n) (hsize : ls.size = nL) (hstack : st0 = As.reverse ++ .ref (ra 0) :: rest) (hW : (rest.map fun v => v.category).sum ≤ 8) (hdg : decode cc pc = .ok (.invokevirtual index, 3)) (hf : cells ≤ R.cells ∧ slots ≤ R.slots)
    (kk : ∀ (H1 : Heap) (locs1 : List Loc), va_P D vw_cl (rf_W ra ca N' O' Z' B') H1 → va_S (rf_A ra) H0 H1 locs1 → W p l e R s m args below meth c H1 locs1 cells slots Q (F0 m (pc + 3) ls (.int v :: rest))) : W p l e R s m args below meth c H locs cells slots Q (F0 m pc ls st0) := by
  subst hstack
  exact va_calli (va_runV S hM cw ⟨rf_blind D ra ca N O Z B _, va_recv hK hP (ci := 4) rfl (q0 := 0) rfl, fun U hU hW => ⟨rfl, by rw [hU]; exact hP, va_K.moved hW.alike hK⟩⟩ rfl hn hsize rfl (lv_room hW) hdg hf) hS (fun q _ h => h) (fun q h => h) (fun r u t H1 locs1 ht hvm hr hB hz hk hS1 => by subst hr; exact kk H1 locs1 (by rw [← ht]; exact hB.1) hS1)
theorem rf_callwv (S : CallFix p m c cc nL s args Ts rn_M) (hM : Met l y ws rm (va_Pc (.ref (ra 0) :: As) (rf_U D ra ca N O Z B)) (va_Qv (fun (_ : Unit) => True) (fun _ t => rf_U D ra ca N' O' Z' B' t) (rf_A ra)) 0 0 (rf_A ra)) (cw : CallW R s args rn_M rn_M index y bytes maxL ret ws rm 0 0 n) (hK : va_K D vw_cl (rf_T ca) s) (hP : va_P D vw_cl (rf_W ra ca N O Z B) H) (hS : va_S (rf_A ra) H0 H locs) (hn : As.length = n) (hsize : ls.size = nL) (hstack : st0 = As.reverse ++ .ref (ra 0) :: rest) (hW : (rest.map fun v => v.category).sum ≤ 8) (hdg : decode cc pc = .ok (.invokevirtual index, 3)) (hf : cells ≤ R.cells ∧ slots ≤ R.slots)
    (kk : ∀ (H1 : Heap) (locs1 : List Loc), va_P D vw_cl (rf_W ra ca N' O' Z' B') H1 → va_S (rf_A ra) H0 H1 locs1 → W p l e R s m args below meth c H1 locs1 cells slots Q (F0 m (pc + 3) ls rest)) : W p l e R s m args below meth c H locs cells slots Q (F0 m pc ls st0) := by
  subst hstack
  exact va_callv (va_runV S hM cw ⟨rf_blind D ra ca N O Z B _, va_recv hK hP (ci := 4) rfl (q0 := 0) rfl, fun U hU hW => ⟨rfl, by rw [hU]; exact hP, va_K.moved hW.alike hK⟩⟩ rfl hn hsize rfl (lv_room hW) hdg hf) hS (fun q _ h => h) (fun q h => h) (fun u t H1 locs1 ht hvm hr hB hz hk hS1 => kk H1 locs1 (by rw [← ht]; exact hB.1) hS1)
end RW
end
section
/-! Part 15: the reference: accept, line, release, end. By wip/gen/gen_ref4.py. -/
theorem bd_o_s (k : Nat) : bd_o (some k) = nI k := rfl
set_option maxHeartbeats 4000000 in
set_option maxRecDepth 100000 in
theorem rc_accept (l : Launch) (D : va_G) (ra : Nat → Nat) (ca : Nat → ClassId) (hJ : rf_J ra) (N : sp_N) (O : sp_O) (Z : sp_Z) (B : sp_B)  (h6l : N 6 0 < 160) (q : Nat) (bar : Bool) (hq : q < 12) : Met l my_M_accept (Cond.code my_M_accept cd_M_accept 4 (some .int) :: bg_tbl) ({ frames := 0, cells := 0, slots := 0, locals := 0 }) (va_Pc [.ref (ra 0), .int (nI q), .int (bd_b bar)] (rf_U D ra ca N O Z B)) (va_Qi (fun r (_ : Unit) => r = nI (N 6 0)) (fun _ uu => rf_U D ra ca (sp_AN N q) (sp_AO N O) Z (sp_AB N B q bar) uu) (rf_A ra)) 0 0 (rf_A ra) := by
  refine Met.ofW (cc := cd_M_accept) (maxL := 4) (ret := (some .int)) (by decide) rfl ?_
  intro p e s m args below meth c s₁ BB hml hv
  obtain ⟨rfl, hP, hK⟩ := hv
  have hx := BB.exec
  have hb := BB.bytes
  have hr := BB.returns
  have hts : ∀ w ∈ bg_tbl, w.before ([.ref (ra 0), .int (nI q), .int (bd_b bar)] : List Value).toArray s = true := fun w h => atoms_spec (ws := (Cond.code my_M_accept cd_M_accept 4 (some .int) :: bg_tbl)) BB.pre w (List.mem_cons_of_mem _ h)
  have hown : s.vm.findClass rn_M = some m.cls := findClass_of_methodNamed BB.named
  have hlocks := BB.notSynchronized
  have hS : va_S (rf_A ra) s.heap s.heap [] := va_S.rf
  have hl := lv_entry ([.ref (ra 0), .int (nI q), .int (bd_b bar)]) (n := 4) (Nat.le_of_ble_eq_true rfl)
  rw [lg_entry_eq]
  generalize (lg_sl ([.ref (ra 0), .int (nI q), .int (bd_b bar)]) ++ List.replicate (4 - (lg_sl ([.ref (ra 0), .int (nI q), .int (bd_b bar)])).length) Slot.unset).toArray = ls at hl ⊢
  have hl : lv_has ls 4 [(0, .ref (ra 0)), (1, .int (nI q)), (2, .int (bd_b bar))] := hl
  refine lv_aload_n hx hb dd_M_accept_0 rfl (lv_at hl 0 rfl) ?_
  refine va_get (D := D) (ci := 4) (v := .int (nI (N 6 0))) (C := rn_M) (T := ft_M) (N := 19) hx hb hts tw_fs_M hown hK hP 0 rfl rfl 6 (by decide) (hts _ tw_fl_M_61) (fun _ h9 => h9) rfl dd_M_accept_1 ?_
  refine lv_istore_n hx hb dd_M_accept_4 rfl hl (by decide) rfl (fun ls hl => ?_)
  have hl : lv_has ls 4 [(3, .int (nI (N 6 0))), (0, .ref (ra 0)), (1, .int (nI q)), (2, .int (bd_b bar))] := hl
  refine lv_aload_n hx hb dd_M_accept_5 rfl (lv_at hl 1 rfl) ?_
  refine lv_aload_n hx hb dd_M_accept_6 rfl (lv_at hl 1 rfl) ?_
  refine va_get (D := D) (ci := 4) (v := .int (nI (N 6 0))) (C := rn_M) (T := ft_M) (N := 19) hx hb hts tw_fs_M hown hK hP 0 rfl rfl 6 (by decide) (hts _ tw_fl_M_61) (fun _ h9 => h9) rfl dd_M_accept_7 ?_
  refine lv_iconst (v := nI 1) hx hb dd_M_accept_10 (by decide) ?_
  refine lv_iadd hx hb dd_M_accept_11 ?_
  rw [nI_add]
  refine va_put (D := D) (ci := 4) (v := .int (nI ((N 6 0) + 1))) (ty := .int) (C := rn_M) (T := ft_M) (N := 19) hx hb hts tw_fs_M fy_M fo_M fn_M hown hK hP (rf_D hJ ca N O Z B) hS 0 rfl rfl 6 (by decide) (hts _ tw_fl_M_61) (fun _ h9 => h9) rfl (by decide +kernel) rfl rfl (Nat.le_of_ble_eq_true rfl) dd_M_accept_12 (fun H locs hP _ hS => ?_)
  have hP : va_P D vw_cl (rf_W ra ca (sp_u N 6 0 ((N 6 0) + 1)) O Z B) H := hP
  refine lv_aload_n hx hb dd_M_accept_15 rfl (lv_at hl 1 rfl) ?_
  refine va_get (D := D) (ci := 4) (v := .ref (ra 7)) (C := rn_M) (T := ft_M) (N := 19) hx hb hts tw_fs_M hown hK hP 0 rfl rfl 7 (by decide) (hts _ tw_fl_M_26) (fun _ h9 => h9) rfl dd_M_accept_16 ?_
  refine lv_iload_n hx hb dd_M_accept_19 rfl (lv_at hl 0 rfl) ?_
  refine lv_iload_n hx hb dd_M_accept_20 rfl (lv_at hl 2 rfl) ?_
  refine bq_iast hx hb hK hP (rf_D hJ ca (sp_u N 6 0 ((N 6 0) + 1)) O Z B) hS 5 4 rfl rfl h6l (by decide) dd_M_accept_21 (fun H locs hP _ hS => ?_)
  have hP : va_P D vw_cl (rf_W ra ca (sp_u (sp_u N 6 0 ((N 6 0) + 1)) 7 (N 6 0) q) O Z B) H := hP
  refine lv_aload_n hx hb dd_M_accept_22 rfl (lv_at hl 1 rfl) ?_
  refine va_get (D := D) (ci := 4) (v := .ref (ra 8)) (C := rn_M) (T := ft_M) (N := 19) hx hb hts tw_fs_M hown hK hP 0 rfl rfl 8 (by decide) (hts _ tw_fl_M_29) (fun _ h9 => h9) rfl dd_M_accept_23 ?_
  refine lv_iload_n hx hb dd_M_accept_26 rfl (lv_at hl 0 rfl) ?_
  refine lv_iconst (v := nI 1) hx hb dd_M_accept_27 (by decide) ?_
  refine bq_iast hx hb hK hP (rf_D hJ ca (sp_u (sp_u N 6 0 ((N 6 0) + 1)) 7 (N 6 0) q) O Z B) hS 6 5 rfl rfl h6l (by decide) dd_M_accept_28 (fun H locs hP _ hS => ?_)
  have hP : va_P D vw_cl (rf_W ra ca (sp_u (sp_u (sp_u N 6 0 ((N 6 0) + 1)) 7 (N 6 0) q) 8 (N 6 0) 1) O Z B) H := hP
  refine lv_aload_n hx hb dd_M_accept_29 rfl (lv_at hl 1 rfl) ?_
  refine va_get (D := D) (ci := 4) (v := .ref (ra 9)) (C := rn_M) (T := ft_M) (N := 19) hx hb hts tw_fs_M hown hK hP 0 rfl rfl 9 (by decide) (hts _ tw_fl_M_32) (fun _ h9 => h9) rfl dd_M_accept_30 ?_
  refine lv_iload_n hx hb dd_M_accept_33 rfl (lv_at hl 0 rfl) ?_
  refine lv_iconst (v := bd_o none) hx hb dd_M_accept_34 (by decide) ?_
  refine bq_oast (v := none) hx hb hK hP (rf_D hJ ca (sp_u (sp_u (sp_u N 6 0 ((N 6 0) + 1)) 7 (N 6 0) q) 8 (N 6 0) 1) O Z B) hS 7 6 rfl rfl h6l (by decide) dd_M_accept_35 (fun H locs hP _ hS => ?_)
  have hP : va_P D vw_cl (rf_W ra ca (sp_u (sp_u (sp_u N 6 0 ((N 6 0) + 1)) 7 (N 6 0) q) 8 (N 6 0) 1) (sp_u O 9 (N 6 0) none) Z B) H := hP
  refine lv_aload_n hx hb dd_M_accept_36 rfl (lv_at hl 1 rfl) ?_
  refine va_get (D := D) (ci := 4) (v := .ref (ra 10)) (C := rn_M) (T := ft_M) (N := 19) hx hb hts tw_fs_M hown hK hP 0 rfl rfl 10 (by decide) (hts _ tw_fl_M_35) (fun _ h9 => h9) rfl dd_M_accept_37 ?_
  refine lv_iload_n hx hb dd_M_accept_40 rfl (lv_at hl 0 rfl) ?_
  refine lv_iconst (v := bd_o none) hx hb dd_M_accept_41 (by decide) ?_
  refine bq_oast (v := none) hx hb hK hP (rf_D hJ ca (sp_u (sp_u (sp_u N 6 0 ((N 6 0) + 1)) 7 (N 6 0) q) 8 (N 6 0) 1) (sp_u O 9 (N 6 0) none) Z B) hS 8 7 rfl rfl h6l (by decide) dd_M_accept_42 (fun H locs hP _ hS => ?_)
  have hP : va_P D vw_cl (rf_W ra ca (sp_u (sp_u (sp_u N 6 0 ((N 6 0) + 1)) 7 (N 6 0) q) 8 (N 6 0) 1) (sp_u (sp_u O 9 (N 6 0) none) 10 (N 6 0) none) Z B) H := hP
  refine lv_aload_n hx hb dd_M_accept_43 rfl (lv_at hl 1 rfl) ?_
  refine va_get (D := D) (ci := 4) (v := .ref (ra 11)) (C := rn_M) (T := ft_M) (N := 19) hx hb hts tw_fs_M hown hK hP 0 rfl rfl 11 (by decide) (hts _ tw_fl_M_38) (fun _ h9 => h9) rfl dd_M_accept_44 ?_
  refine lv_iload_n hx hb dd_M_accept_47 rfl (lv_at hl 0 rfl) ?_
  refine lv_iconst (v := bd_o none) hx hb dd_M_accept_48 (by decide) ?_
  refine bq_oast (v := none) hx hb hK hP (rf_D hJ ca (sp_u (sp_u (sp_u N 6 0 ((N 6 0) + 1)) 7 (N 6 0) q) 8 (N 6 0) 1) (sp_u (sp_u O 9 (N 6 0) none) 10 (N 6 0) none) Z B) hS 9 8 rfl rfl h6l (by decide) dd_M_accept_49 (fun H locs hP _ hS => ?_)
  have hP : va_P D vw_cl (rf_W ra ca (sp_u (sp_u (sp_u N 6 0 ((N 6 0) + 1)) 7 (N 6 0) q) 8 (N 6 0) 1) (sp_u (sp_u (sp_u O 9 (N 6 0) none) 10 (N 6 0) none) 11 (N 6 0) none) Z B) H := hP
  refine lv_aload_n hx hb dd_M_accept_50 rfl (lv_at hl 1 rfl) ?_
  refine va_get (D := D) (ci := 4) (v := .ref (ra 14)) (C := rn_M) (T := ft_M) (N := 19) hx hb hts tw_fs_M hown hK hP 0 rfl rfl 14 (by decide) (hts _ tw_fl_M_48) (fun _ h9 => h9) rfl dd_M_accept_51 ?_
  refine lv_iload_n hx hb dd_M_accept_54 rfl (lv_at hl 0 rfl) ?_
  refine lv_iload_n hx hb dd_M_accept_55 rfl (lv_at hl 3 rfl) ?_
  refine bq_zeq (tgt := 68) hx hb dd_M_accept_56 rfl (fun h56 => ?_) (fun h56 => ?_)
  · refine lv_iconst (v := bd_b false) hx hb dd_M_accept_68 (by decide) ?_
    refine bq_zast hx hb hK hP (rf_D hJ ca (sp_u (sp_u (sp_u N 6 0 ((N 6 0) + 1)) 7 (N 6 0) q) 8 (N 6 0) 1) (sp_u (sp_u (sp_u O 9 (N 6 0) none) 10 (N 6 0) none) 11 (N 6 0) none) Z B) hS 12 11 rfl rfl h6l (by decide) dd_M_accept_69 (fun H locs hP _ hS => ?_)
    have hP : va_P D vw_cl (rf_W ra ca (sp_u (sp_u (sp_u N 6 0 ((N 6 0) + 1)) 7 (N 6 0) q) 8 (N 6 0) 1) (sp_u (sp_u (sp_u O 9 (N 6 0) none) 10 (N 6 0) none) 11 (N 6 0) none) Z (sp_u B 14 (N 6 0) false)) H := hP
    refine lv_iload_n hx hb dd_M_accept_70 rfl (lv_at hl 0 rfl) ?_
    have eN : sp_AN N q = sp_u (sp_u (sp_u N 6 0 ((N 6 0) + 1)) 7 (N 6 0) q) 8 (N 6 0) 1 := by rfl
    have eO : sp_AO N O = sp_u (sp_u (sp_u O 9 (N 6 0) none) 10 (N 6 0) none) 11 (N 6 0) none := by rfl
    have eB : sp_AB N B q bar = sp_u B 14 (N 6 0) false := by simp [sp_AB, h56]
    exact W.iret hx hb hr (fun tt htt hWW => ⟨⟨_, (), rfl, rfl, by rw [htt, eN, eO, eB]; exact hP, va_K.moved hWW.alike hK⟩, hS.F htt⟩) hS.2.2 dd_M_accept_71
  · refine lv_iload_n hx hb dd_M_accept_59 rfl (lv_at hl 2 rfl) ?_
    refine lv_iconst (v := nI 3) hx hb dd_M_accept_60 (by decide) ?_
    refine bq_lt (tgt := 68) hx hb (by omega) (by decide) dd_M_accept_61 rfl (fun h61 => ?_) (fun h61 => ?_)
    · refine lv_iconst (v := bd_b false) hx hb dd_M_accept_68 (by decide) ?_
      refine bq_zast hx hb hK hP (rf_D hJ ca (sp_u (sp_u (sp_u N 6 0 ((N 6 0) + 1)) 7 (N 6 0) q) 8 (N 6 0) 1) (sp_u (sp_u (sp_u O 9 (N 6 0) none) 10 (N 6 0) none) 11 (N 6 0) none) Z B) hS 12 11 rfl rfl h6l (by decide) dd_M_accept_69 (fun H locs hP _ hS => ?_)
      have hP : va_P D vw_cl (rf_W ra ca (sp_u (sp_u (sp_u N 6 0 ((N 6 0) + 1)) 7 (N 6 0) q) 8 (N 6 0) 1) (sp_u (sp_u (sp_u O 9 (N 6 0) none) 10 (N 6 0) none) 11 (N 6 0) none) Z (sp_u B 14 (N 6 0) false)) H := hP
      refine lv_iload_n hx hb dd_M_accept_70 rfl (lv_at hl 0 rfl) ?_
      have eN : sp_AN N q = sp_u (sp_u (sp_u N 6 0 ((N 6 0) + 1)) 7 (N 6 0) q) 8 (N 6 0) 1 := by rfl
      have eO : sp_AO N O = sp_u (sp_u (sp_u O 9 (N 6 0) none) 10 (N 6 0) none) 11 (N 6 0) none := by rfl
      have eB : sp_AB N B q bar = sp_u B 14 (N 6 0) false := by simp [sp_AB, h56, h61, Nat.not_le.mpr h61]
      exact W.iret hx hb hr (fun tt htt hWW => ⟨⟨_, (), rfl, rfl, by rw [htt, eN, eO, eB]; exact hP, va_K.moved hWW.alike hK⟩, hS.F htt⟩) hS.2.2 dd_M_accept_71
    · refine lv_iconst (v := bd_b true) hx hb dd_M_accept_64 (by decide) ?_
      refine lv_goto (tgt := 69) hx hb dd_M_accept_65 rfl ?_
      refine bq_zast hx hb hK hP (rf_D hJ ca (sp_u (sp_u (sp_u N 6 0 ((N 6 0) + 1)) 7 (N 6 0) q) 8 (N 6 0) 1) (sp_u (sp_u (sp_u O 9 (N 6 0) none) 10 (N 6 0) none) 11 (N 6 0) none) Z B) hS 12 11 rfl rfl h6l (by decide) dd_M_accept_69 (fun H locs hP _ hS => ?_)
      have hP : va_P D vw_cl (rf_W ra ca (sp_u (sp_u (sp_u N 6 0 ((N 6 0) + 1)) 7 (N 6 0) q) 8 (N 6 0) 1) (sp_u (sp_u (sp_u O 9 (N 6 0) none) 10 (N 6 0) none) 11 (N 6 0) none) Z (sp_u B 14 (N 6 0) true)) H := hP
      refine lv_iload_n hx hb dd_M_accept_70 rfl (lv_at hl 0 rfl) ?_
      have eN : sp_AN N q = sp_u (sp_u (sp_u N 6 0 ((N 6 0) + 1)) 7 (N 6 0) q) 8 (N 6 0) 1 := by rfl
      have eO : sp_AO N O = sp_u (sp_u (sp_u O 9 (N 6 0) none) 10 (N 6 0) none) 11 (N 6 0) none := by rfl
      have eB : sp_AB N B q bar = sp_u B 14 (N 6 0) true := by simp [sp_AB, h56, h61, Nat.not_lt.mpr h61]
      exact W.iret hx hb hr (fun tt htt hWW => ⟨⟨_, (), rfl, rfl, by rw [htt, eN, eO, eB]; exact hP, va_K.moved hWW.alike hK⟩, hS.F htt⟩) hS.2.2 dd_M_accept_71

set_option maxHeartbeats 4000000 in
set_option maxRecDepth 100000 in
theorem rc_line (l : Launch) (D : va_G) (ra : Nat → Nat) (ca : Nat → ClassId) (hJ : rf_J ra) (N : sp_N) (O : sp_O) (Z : sp_Z) (B : sp_B)  (t : Nat) (ht : t < 160) : Met l my_M_line (Cond.code my_M_line cd_M_line 2 none :: bg_tbl) ({ frames := 0, cells := 0, slots := 0, locals := 0 }) (va_Pc [.ref (ra 0), .int (nI t)] (rf_U D ra ca N O Z B)) (va_Qv (fun (_ : Unit) => True) (fun _ uu => rf_U D ra ca (sp_L N t) O Z B uu) (rf_A ra)) 0 0 (rf_A ra) := by
  refine Met.ofW (cc := cd_M_line) (maxL := 2) (ret := none) (by decide) rfl ?_
  intro p e s m args below meth c s₁ BB hml hv
  obtain ⟨rfl, hP, hK⟩ := hv
  have hx := BB.exec
  have hb := BB.bytes
  have hr := BB.returns
  have hts : ∀ w ∈ bg_tbl, w.before ([.ref (ra 0), .int (nI t)] : List Value).toArray s = true := fun w h => atoms_spec (ws := (Cond.code my_M_line cd_M_line 2 none :: bg_tbl)) BB.pre w (List.mem_cons_of_mem _ h)
  have hown : s.vm.findClass rn_M = some m.cls := findClass_of_methodNamed BB.named
  have hlocks := BB.notSynchronized
  have hS : va_S (rf_A ra) s.heap s.heap [] := va_S.rf
  have hl := lv_entry ([.ref (ra 0), .int (nI t)]) (n := 2) (Nat.le_of_ble_eq_true rfl)
  rw [lg_entry_eq]
  generalize (lg_sl ([.ref (ra 0), .int (nI t)]) ++ List.replicate (2 - (lg_sl ([.ref (ra 0), .int (nI t)])).length) Slot.unset).toArray = ls at hl ⊢
  have hl : lv_has ls 2 [(0, .ref (ra 0)), (1, .int (nI t))] := hl
  refine lv_aload_n hx hb dd_M_line_0 rfl (lv_at hl 0 rfl) ?_
  refine va_get (D := D) (ci := 4) (v := .ref (ra 8)) (C := rn_M) (T := ft_M) (N := 19) hx hb hts tw_fs_M hown hK hP 0 rfl rfl 8 (by decide) (hts _ tw_fl_M_29) (fun _ h9 => h9) rfl dd_M_line_1 ?_
  refine lv_iload_n hx hb dd_M_line_4 rfl (lv_at hl 1 rfl) ?_
  refine lv_iconst (v := nI 2) hx hb dd_M_line_5 (by decide) ?_
  refine bq_iast hx hb hK hP (rf_D hJ ca N O Z B) hS 6 5 rfl rfl ht (by decide) dd_M_line_6 (fun H locs hP _ hS => ?_)
  have hP : va_P D vw_cl (rf_W ra ca (sp_u N 8 t 2) O Z B) H := hP
  refine lv_aload_n hx hb dd_M_line_7 rfl (lv_at hl 0 rfl) ?_
  refine va_get (D := D) (ci := 4) (v := .ref (ra 12)) (C := rn_M) (T := ft_M) (N := 19) hx hb hts tw_fs_M hown hK hP 0 rfl rfl 12 (by decide) (hts _ tw_fl_M_41) (fun _ h9 => h9) rfl dd_M_line_8 ?_
  refine lv_iload_n hx hb dd_M_line_11 rfl (lv_at hl 1 rfl) ?_
  refine lv_aload_n hx hb dd_M_line_12 rfl (lv_at hl 0 rfl) ?_
  refine va_get (D := D) (ci := 4) (v := .int (nI (N 16 0))) (C := rn_M) (T := ft_M) (N := 19) hx hb hts tw_fs_M hown hK hP 0 rfl rfl 16 (by decide) (hts _ tw_fl_M_89) (fun _ h9 => h9) rfl dd_M_line_13 ?_
  refine bq_iast hx hb hK hP (rf_D hJ ca (sp_u N 8 t 2) O Z B) hS 10 9 rfl rfl ht (by decide) dd_M_line_16 (fun H locs hP _ hS => ?_)
  have hP : va_P D vw_cl (rf_W ra ca (sp_u (sp_u N 8 t 2) 12 t (N 16 0)) O Z B) H := hP
  refine lv_aload_n hx hb dd_M_line_17 rfl (lv_at hl 0 rfl) ?_
  refine lv_aload_n hx hb dd_M_line_18 rfl (lv_at hl 0 rfl) ?_
  refine va_get (D := D) (ci := 4) (v := .int (nI (N 16 0))) (C := rn_M) (T := ft_M) (N := 19) hx hb hts tw_fs_M hown hK hP 0 rfl rfl 16 (by decide) (hts _ tw_fl_M_89) (fun _ h9 => h9) rfl dd_M_line_19 ?_
  refine lv_iconst (v := nI 1) hx hb dd_M_line_22 (by decide) ?_
  refine lv_iadd hx hb dd_M_line_23 ?_
  rw [nI_add]
  refine va_put (D := D) (ci := 4) (v := .int (nI ((N 16 0) + 1))) (ty := .int) (C := rn_M) (T := ft_M) (N := 19) hx hb hts tw_fs_M fy_M fo_M fn_M hown hK hP (rf_D hJ ca (sp_u (sp_u N 8 t 2) 12 t (N 16 0)) O Z B) hS 0 rfl rfl 16 (by decide) (hts _ tw_fl_M_89) (fun _ h9 => h9) rfl (by decide +kernel) rfl rfl (Nat.le_of_ble_eq_true rfl) dd_M_line_24 (fun H locs hP _ hS => ?_)
  have hP : va_P D vw_cl (rf_W ra ca (sp_u (sp_u (sp_u N 8 t 2) 12 t (N 16 0)) 16 0 ((N 16 0) + 1)) O Z B) H := hP
  have eN : sp_L N t = sp_u (sp_u (sp_u N 8 t 2) 12 t (N 16 0)) 16 0 ((N 16 0) + 1) := by rfl
  exact W.vret hx hb hr (fun tt htt hWW => ⟨⟨(), rfl, trivial, by rw [htt, eN]; exact hP, va_K.moved hWW.alike hK⟩, hS.F htt⟩) hS.2.2 dd_M_line_27

theorem sp_L_8 (N : sp_N) (t j : Nat) : sp_L N t 8 j = if j = t then 2 else N 8 j := by
  show sp_u N 8 t 2 8 j = _
  rw [sp_u_app]
  simp
set_option maxHeartbeats 4000000 in
set_option maxRecDepth 100000 in
theorem rc_release (l : Launch) (D : va_G) (ra : Nat → Nat) (ca : Nat → ClassId) (hJ : rf_J ra) (N : sp_N) (O : sp_O) (Z : sp_Z) (B : sp_B) (hB : sp_Bd N O) (g : Nat) (hg : g < 4) : Met l my_M_release (Cond.code my_M_release cd_M_release 3 none :: bg_tbl) ({ frames := 1, cells := 0, slots := 0, locals := 23 }) (va_Pc [.ref (ra 0), .int (nI g)] (rf_U D ra ca N O Z B)) (va_Qv (fun (_ : Unit) => True) (fun _ uu => rf_U D ra ca (sp_S N O g) O Z B uu) (rf_A ra)) 0 0 (rf_A ra) := by
  refine Met.ofW (cc := cd_M_release) (maxL := 3) (ret := none) (by decide) rfl ?_
  intro p e s m args below meth c s₁ BB hml hv
  obtain ⟨rfl, hP, hK⟩ := hv
  have hx := BB.exec
  have hb := BB.bytes
  have hr := BB.returns
  have hts : ∀ w ∈ bg_tbl, w.before ([.ref (ra 0), .int (nI g)] : List Value).toArray s = true := fun w h => atoms_spec (ws := (Cond.code my_M_release cd_M_release 3 none :: bg_tbl)) BB.pre w (List.mem_cons_of_mem _ h)
  have hown : s.vm.findClass rn_M = some m.cls := findClass_of_methodNamed BB.named
  have hlocks := BB.notSynchronized
  obtain ⟨hB_0, hB_1, hB_2, hB_3, hB_4, hB_5, hB_6, hB_7, hB_8, hB_9, hB_10, hB_11, hB_12, hB_17⟩ := id hB
  have hS : va_S (rf_A ra) s.heap s.heap [] := va_S.rf
  have hl := lv_entry ([.ref (ra 0), .int (nI g)]) (n := 3) (Nat.le_of_ble_eq_true rfl)
  rw [lg_entry_eq]
  generalize (lg_sl ([.ref (ra 0), .int (nI g)]) ++ List.replicate (3 - (lg_sl ([.ref (ra 0), .int (nI g)])).length) Slot.unset).toArray = ls at hl ⊢
  have hl : lv_has ls 3 [(0, .ref (ra 0)), (1, .int (nI g))] := hl
  by_cases h0 : 0 < sp_g N O g
  · skip
    refine lv_aload_n hx hb dd_M_release_0 rfl (lv_at hl 0 rfl) ?_
    refine lv_iload_n hx hb dd_M_release_1 rfl (lv_at hl 1 rfl) ?_
    refine rf_calli (As := [.int (nI g)]) (rest := []) (v := nI (sp_g N O g)) ⟨hx, hb, hml, hown, hts⟩ (rc_countOf l D ra ca N O Z B hB g hg) (bg_cwV 1 hts tw_ml_M_92 tw_im_M_countOf tw_se_M_countOf tw_in_M tw_co_M_countOf rfl rfl th_M_countOf ⟨Nat.le_of_ble_eq_true rfl, Nat.le_of_ble_eq_true rfl⟩) hK hP rfl hl.1 rfl (by decide) dd_M_release_2 ⟨Nat.zero_le _, Nat.zero_le _⟩ ?_
    refine bq_nle (tgt := 9) hx hb (by have h9 := sp_c_le (fun t => decide (O 10 t = some g) && decide (N 8 t < 5)) (N 6 0); have h8 := hB_17 g; unfold sp_g; omega) dd_M_release_5 rfl (fun h5 => ?_) (fun h5 => ?_)
    · exact absurd h5 (by omega)
    · have eN : sp_S N O g = N := by rw [sp_S, if_pos h5]
      exact W.vret hx hb hr (fun tt htt hWW => ⟨⟨(), rfl, trivial, by rw [htt, eN]; exact hP, va_K.moved hWW.alike hK⟩, hS.F htt⟩) hS.2.2 dd_M_release_8
  · skip
    have lp : ∀ (n : Nat) (t : Nat) (M : sp_N) (ls : Array Slot) (H : Heap) (locs : List Loc), (n + t = N 6 0) → (M = sp_R N O g t) → (M 6 0 = N 6 0) → (∀ j, M 8 j < 7) →  va_P D vw_cl (rf_W ra ca M O Z B) H → va_S (rf_A ra) s.heap H locs → lv_has ls 3 [(0, .ref (ra 0)), (1, .int (nI g)), (2, .int (nI t))] → W p l e (headSpec (Cond.code my_M_release cd_M_release 3 none :: bg_tbl) ({ frames := 1, cells := 0, slots := 0, locals := 23 })).room s m ([.ref (ra 0), .int (nI g)] : List Value).toArray below meth c H locs 0 0 (MQ below (va_Qv (fun (_ : Unit) => True) (fun _ uu => rf_U D ra ca (sp_S N O g) O Z B uu) (rf_A ra)) ([.ref (ra 0), .int (nI g)] : List Value).toArray s 0 0 (rf_A ra)) (F0 m 11 ls []) := by
      intro n
      induction n with
      | zero =>
        intro t M ls H locs hk hM h6 h8 hP hS hl
        refine lv_iload_n hx hb dd_M_release_11 rfl (lv_at hl 2 rfl) ?_
        refine lv_aload_n hx hb dd_M_release_12 rfl (lv_at hl 0 rfl) ?_
        refine va_get (D := D) (ci := 4) (v := .int (nI (M 6 0))) (C := rn_M) (T := ft_M) (N := 19) hx hb hts tw_fs_M hown hK hP 0 rfl rfl 6 (by decide) (hts _ tw_fl_M_61) (fun _ h9 => h9) rfl dd_M_release_13 ?_
        refine bq_ge (tgt := 49) hx hb (by omega) (by omega) dd_M_release_16 rfl (fun h16 => ?_) (fun h16 => ?_)
        · have eN : sp_S N O g = M := by rw [sp_S, if_neg (by omega), hM, show t = N 6 0 by omega]
          exact W.vret hx hb hr (fun tt htt hWW => ⟨⟨(), rfl, trivial, by rw [htt, eN]; exact hP, va_K.moved hWW.alike hK⟩, hS.F htt⟩) hS.2.2 dd_M_release_49
        · exact absurd h16 (by omega)
      | succ n ih =>
        intro t M ls H locs hk hM h6 h8 hP hS hl
        refine lv_iload_n hx hb dd_M_release_11 rfl (lv_at hl 2 rfl) ?_
        refine lv_aload_n hx hb dd_M_release_12 rfl (lv_at hl 0 rfl) ?_
        refine va_get (D := D) (ci := 4) (v := .int (nI (M 6 0))) (C := rn_M) (T := ft_M) (N := 19) hx hb hts tw_fs_M hown hK hP 0 rfl rfl 6 (by decide) (hts _ tw_fl_M_61) (fun _ h9 => h9) rfl dd_M_release_13 ?_
        refine bq_ge (tgt := 49) hx hb (by omega) (by omega) dd_M_release_16 rfl (fun h16 => ?_) (fun h16 => ?_)
        · exact absurd h16 (by omega)
        · refine lv_aload_n hx hb dd_M_release_19 rfl (lv_at hl 0 rfl) ?_
          refine va_get (D := D) (ci := 4) (v := .ref (ra 8)) (C := rn_M) (T := ft_M) (N := 19) hx hb hts tw_fs_M hown hK hP 0 rfl rfl 8 (by decide) (hts _ tw_fl_M_29) (fun _ h9 => h9) rfl dd_M_release_20 ?_
          refine lv_iload_n hx hb dd_M_release_23 rfl (lv_at hl 2 rfl) ?_
          refine bq_iald hx hb hK hP 6 5 rfl rfl (by omega) (by decide) dd_M_release_24 ?_
          refine bq_nne (tgt := 43) hx hb (Nat.lt_trans (h8 t) (by decide)) dd_M_release_25 rfl (fun h25 => ?_) (fun h25 => ?_)
          · refine lv_iinc (k := 2) (v := nI (t + 1)) hx hb dd_M_release_43 hl rfl (nI_1 _) (by decide) rfl (fun ls hl => ?_)
            have hl : lv_has ls 3 [(2, .int (nI (t + 1))), (0, .ref (ra 0)), (1, .int (nI g))] := hl
            refine lv_goto (tgt := 11) hx hb dd_M_release_46 rfl ?_
            exact ih (t + 1) M ls H locs (by omega) (by rw [hM, sp_R, ← hM]; simp [h16, Nat.not_le.mpr h16, h25]) h6 h8 hP hS (lv_sub hl [1, 2, 0] rfl)
          · refine lv_aload_n hx hb dd_M_release_28 rfl (lv_at hl 0 rfl) ?_
            refine va_get (D := D) (ci := 4) (v := .ref (ra 11)) (C := rn_M) (T := ft_M) (N := 19) hx hb hts tw_fs_M hown hK hP 0 rfl rfl 11 (by decide) (hts _ tw_fl_M_38) (fun _ h9 => h9) rfl dd_M_release_29 ?_
            refine lv_iload_n hx hb dd_M_release_32 rfl (lv_at hl 2 rfl) ?_
            refine bq_iald hx hb hK hP 9 8 rfl rfl (by omega) (by decide) dd_M_release_33 ?_
            refine lv_iload_n hx hb dd_M_release_34 rfl (lv_at hl 1 rfl) ?_
            refine bq_one (tgt := 43) hx hb (fun k hk => Nat.lt_trans (hB_11 _ k hk) (by decide)) (by omega) dd_M_release_35 rfl (fun h35 => ?_) (fun h35 => ?_)
            · refine lv_iinc (k := 2) (v := nI (t + 1)) hx hb dd_M_release_43 hl rfl (nI_1 _) (by decide) rfl (fun ls hl => ?_)
              have hl : lv_has ls 3 [(2, .int (nI (t + 1))), (0, .ref (ra 0)), (1, .int (nI g))] := hl
              refine lv_goto (tgt := 11) hx hb dd_M_release_46 rfl ?_
              exact ih (t + 1) M ls H locs (by omega) (by rw [hM, sp_R, ← hM]; simp [h16, Nat.not_le.mpr h16, h25, h35]) h6 h8 hP hS (lv_sub hl [1, 2, 0] rfl)
            · refine lv_aload_n hx hb dd_M_release_38 rfl (lv_at hl 0 rfl) ?_
              refine lv_iload_n hx hb dd_M_release_39 rfl (lv_at hl 2 rfl) ?_
              refine rf_callwv (As := [.int (nI t)]) (rest := []) ⟨hx, hb, hml, hown, hts⟩ (rc_line l D ra ca hJ M O Z B t (by omega)) (bg_cwV 1 hts tw_ml_M_95 tw_im_M_line tw_se_M_line tw_in_M tw_co_M_line rfl rfl th_M_line ⟨Nat.le_of_ble_eq_true rfl, Nat.le_of_ble_eq_true rfl⟩) hK hP hS rfl hl.1 rfl (by decide) dd_M_release_40 ⟨Nat.zero_le _, Nat.zero_le _⟩ (fun H locs hP hS => ?_)
              refine lv_iinc (k := 2) (v := nI (t + 1)) hx hb dd_M_release_43 hl rfl (nI_1 _) (by decide) rfl (fun ls hl => ?_)
              have hl : lv_has ls 3 [(2, .int (nI (t + 1))), (0, .ref (ra 0)), (1, .int (nI g))] := hl
              refine lv_goto (tgt := 11) hx hb dd_M_release_46 rfl ?_
              exact ih (t + 1) (sp_L M t) ls H locs (by omega) (by rw [sp_R, ← hM]; simp [h16, Nat.not_le.mpr h16, h25, h35]) h6 (fun j => by rw [sp_L_8]; split; decide; exact h8 j) hP hS (lv_sub hl [1, 2, 0] rfl)
    refine lv_aload_n hx hb dd_M_release_0 rfl (lv_at hl 0 rfl) ?_
    refine lv_iload_n hx hb dd_M_release_1 rfl (lv_at hl 1 rfl) ?_
    refine rf_calli (As := [.int (nI g)]) (rest := []) (v := nI (sp_g N O g)) ⟨hx, hb, hml, hown, hts⟩ (rc_countOf l D ra ca N O Z B hB g hg) (bg_cwV 1 hts tw_ml_M_92 tw_im_M_countOf tw_se_M_countOf tw_in_M tw_co_M_countOf rfl rfl th_M_countOf ⟨Nat.le_of_ble_eq_true rfl, Nat.le_of_ble_eq_true rfl⟩) hK hP rfl hl.1 rfl (by decide) dd_M_release_2 ⟨Nat.zero_le _, Nat.zero_le _⟩ ?_
    refine bq_nle (tgt := 9) hx hb (by have h9 := sp_c_le (fun t => decide (O 10 t = some g) && decide (N 8 t < 5)) (N 6 0); have h8 := hB_17 g; unfold sp_g; omega) dd_M_release_5 rfl (fun h5 => ?_) (fun h5 => ?_)
    · refine lv_iconst (v := nI 0) hx hb dd_M_release_9 (by decide) ?_
      refine lv_istore_n hx hb dd_M_release_10 rfl hl (by decide) rfl (fun ls hl => ?_)
      have hl : lv_has ls 3 [(2, .int (nI 0)), (0, .ref (ra 0)), (1, .int (nI g))] := hl
      exact lp (N 6 0) 0 N ls _ _ (by omega) rfl rfl hB_8 hP hS (lv_sub hl [1, 2, 0] rfl)
    · exact absurd h5 (by omega)

set_option maxHeartbeats 4000000 in
set_option maxRecDepth 100000 in
theorem rc_end (l : Launch) (D : va_G) (ra : Nat → Nat) (ca : Nat → ClassId) (hJ : rf_J ra) (N : sp_N) (O : sp_O) (Z : sp_Z) (B : sp_B) (hB : sp_Bd N O) (t how : Nat) (ht : t < 160) (hh : how < 7) : Met l my_M_end (Cond.code my_M_end cd_M_end 3 none :: bg_tbl) ({ frames := 2, cells := 0, slots := 0, locals := 45 }) (va_Pc [.ref (ra 0), .int (nI t), .int (nI how)] (rf_U D ra ca N O Z B)) (va_Qv (fun (_ : Unit) => True) (fun _ uu => rf_U D ra ca (sp_E N O t how) O Z B uu) (rf_A ra)) 0 0 (rf_A ra) := by
  refine Met.ofW (cc := cd_M_end) (maxL := 3) (ret := none) (by decide) rfl ?_
  intro p e s m args below meth c s₁ BB hml hv
  obtain ⟨rfl, hP, hK⟩ := hv
  have hx := BB.exec
  have hb := BB.bytes
  have hr := BB.returns
  have hts : ∀ w ∈ bg_tbl, w.before ([.ref (ra 0), .int (nI t), .int (nI how)] : List Value).toArray s = true := fun w h => atoms_spec (ws := (Cond.code my_M_end cd_M_end 3 none :: bg_tbl)) BB.pre w (List.mem_cons_of_mem _ h)
  have hown : s.vm.findClass rn_M = some m.cls := findClass_of_methodNamed BB.named
  have hlocks := BB.notSynchronized
  obtain ⟨hB_0, hB_1, hB_2, hB_3, hB_4, hB_5, hB_6, hB_7, hB_8, hB_9, hB_10, hB_11, hB_12, hB_17⟩ := id hB
  have hS : va_S (rf_A ra) s.heap s.heap [] := va_S.rf
  have hl := lv_entry ([.ref (ra 0), .int (nI t), .int (nI how)]) (n := 3) (Nat.le_of_ble_eq_true rfl)
  rw [lg_entry_eq]
  generalize (lg_sl ([.ref (ra 0), .int (nI t), .int (nI how)]) ++ List.replicate (3 - (lg_sl ([.ref (ra 0), .int (nI t), .int (nI how)])).length) Slot.unset).toArray = ls at hl ⊢
  have hl : lv_has ls 3 [(0, .ref (ra 0)), (1, .int (nI t)), (2, .int (nI how))] := hl
  refine lv_aload_n hx hb dd_M_end_0 rfl (lv_at hl 0 rfl) ?_
  refine va_get (D := D) (ci := 4) (v := .ref (ra 8)) (C := rn_M) (T := ft_M) (N := 19) hx hb hts tw_fs_M hown hK hP 0 rfl rfl 8 (by decide) (hts _ tw_fl_M_29) (fun _ h9 => h9) rfl dd_M_end_1 ?_
  refine lv_iload_n hx hb dd_M_end_4 rfl (lv_at hl 1 rfl) ?_
  refine lv_iload_n hx hb dd_M_end_5 rfl (lv_at hl 2 rfl) ?_
  refine bq_iast hx hb hK hP (rf_D hJ ca N O Z B) hS 6 5 rfl rfl ht (by decide) dd_M_end_6 (fun H locs hP _ hS => ?_)
  have hP : va_P D vw_cl (rf_W ra ca (sp_u N 8 t how) O Z B) H := hP
  refine lv_aload_n hx hb dd_M_end_7 rfl (lv_at hl 0 rfl) ?_
  refine va_get (D := D) (ci := 4) (v := .ref (ra 9)) (C := rn_M) (T := ft_M) (N := 19) hx hb hts tw_fs_M hown hK hP 0 rfl rfl 9 (by decide) (hts _ tw_fl_M_32) (fun _ h9 => h9) rfl dd_M_end_8 ?_
  refine lv_iload_n hx hb dd_M_end_11 rfl (lv_at hl 1 rfl) ?_
  refine bq_iald hx hb hK hP 7 6 rfl rfl ht (by decide) dd_M_end_12 ?_
  refine bq_olt (tgt := 28) hx hb (fun k hk => Nat.lt_trans (hB_9 _ k hk) (by decide)) dd_M_end_13 rfl (fun h13 => ?_) (fun h13 => ?_)
  · refine lv_aload_n hx hb dd_M_end_28 rfl (lv_at hl 0 rfl) ?_
    refine va_get (D := D) (ci := 4) (v := .ref (ra 10)) (C := rn_M) (T := ft_M) (N := 19) hx hb hts tw_fs_M hown hK hP 0 rfl rfl 10 (by decide) (hts _ tw_fl_M_35) (fun _ h9 => h9) rfl dd_M_end_29 ?_
    refine lv_iload_n hx hb dd_M_end_32 rfl (lv_at hl 1 rfl) ?_
    refine bq_iald hx hb hK hP 8 7 rfl rfl ht (by decide) dd_M_end_33 ?_
    refine bq_olt (tgt := 47) hx hb (fun k hk => Nat.lt_trans (hB_10 _ k hk) (by decide)) dd_M_end_34 rfl (fun h34 => ?_) (fun h34 => ?_)
    · have eN : sp_E N O t how = sp_u N 8 t how := by simp [sp_E, sp_C, h13, h34]
      exact W.vret hx hb hr (fun tt htt hWW => ⟨⟨(), rfl, trivial, by rw [htt, eN]; exact hP, va_K.moved hWW.alike hK⟩, hS.F htt⟩) hS.2.2 dd_M_end_47
    · obtain ⟨g9, hg9⟩ := bd_ne h34
      refine lv_aload_n hx hb dd_M_end_37 rfl (lv_at hl 0 rfl) ?_
      refine lv_aload_n hx hb dd_M_end_38 rfl (lv_at hl 0 rfl) ?_
      refine va_get (D := D) (ci := 4) (v := .ref (ra 10)) (C := rn_M) (T := ft_M) (N := 19) hx hb hts tw_fs_M hown hK hP 0 rfl rfl 10 (by decide) (hts _ tw_fl_M_35) (fun _ h9 => h9) rfl dd_M_end_39 ?_
      refine lv_iload_n hx hb dd_M_end_42 rfl (lv_at hl 1 rfl) ?_
      refine bq_iald hx hb hK hP 8 7 rfl rfl ht (by decide) dd_M_end_43 ?_
      rw [hg9, bd_o_s]
      refine rf_callwv (As := [.int (nI g9)]) (rest := []) ⟨hx, hb, hml, hown, hts⟩ (rc_release l D ra ca hJ (sp_u N 8 t how) O Z B (sp_Bd_8 hB t how (by first | decide | omega)) g9 (hB_10 _ _ hg9)) (bg_cwV 1 hts tw_ml_M_99 tw_im_M_release tw_se_M_release tw_in_M tw_co_M_release rfl rfl th_M_release ⟨Nat.le_of_ble_eq_true rfl, Nat.le_of_ble_eq_true rfl⟩) hK hP hS rfl hl.1 rfl (by decide) dd_M_end_44 ⟨Nat.zero_le _, Nat.zero_le _⟩ (fun H locs hP hS => ?_)
      have eN : sp_E N O t how = sp_S (sp_u N 8 t how) O g9 := by simp [sp_E, sp_C, h13, hg9]
      exact W.vret hx hb hr (fun tt htt hWW => ⟨⟨(), rfl, trivial, by rw [htt, eN]; exact hP, va_K.moved hWW.alike hK⟩, hS.F htt⟩) hS.2.2 dd_M_end_47
  · obtain ⟨c9, hc9⟩ := bd_ne h13
    have hc160 := hB_9 _ _ hc9
    refine lv_aload_n hx hb dd_M_end_16 rfl (lv_at hl 0 rfl) ?_
    refine va_get (D := D) (ci := 4) (v := .ref (ra 8)) (C := rn_M) (T := ft_M) (N := 19) hx hb hts tw_fs_M hown hK hP 0 rfl rfl 8 (by decide) (hts _ tw_fl_M_29) (fun _ h9 => h9) rfl dd_M_end_17 ?_
    refine lv_aload_n hx hb dd_M_end_20 rfl (lv_at hl 0 rfl) ?_
    refine va_get (D := D) (ci := 4) (v := .ref (ra 9)) (C := rn_M) (T := ft_M) (N := 19) hx hb hts tw_fs_M hown hK hP 0 rfl rfl 9 (by decide) (hts _ tw_fl_M_32) (fun _ h9 => h9) rfl dd_M_end_21 ?_
    refine lv_iload_n hx hb dd_M_end_24 rfl (lv_at hl 1 rfl) ?_
    refine bq_iald hx hb hK hP 7 6 rfl rfl ht (by decide) dd_M_end_25 ?_
    rw [hc9, bd_o_s]
    refine lv_iconst (v := nI 3) hx hb dd_M_end_26 (by decide) ?_
    refine bq_iast hx hb hK hP (rf_D hJ ca (sp_u N 8 t how) O Z B) hS 6 5 rfl rfl (by omega) (by decide) dd_M_end_27 (fun H locs hP _ hS => ?_)
    have hP : va_P D vw_cl (rf_W ra ca (sp_u (sp_u N 8 t how) 8 c9 3) O Z B) H := hP
    refine lv_aload_n hx hb dd_M_end_28 rfl (lv_at hl 0 rfl) ?_
    refine va_get (D := D) (ci := 4) (v := .ref (ra 10)) (C := rn_M) (T := ft_M) (N := 19) hx hb hts tw_fs_M hown hK hP 0 rfl rfl 10 (by decide) (hts _ tw_fl_M_35) (fun _ h9 => h9) rfl dd_M_end_29 ?_
    refine lv_iload_n hx hb dd_M_end_32 rfl (lv_at hl 1 rfl) ?_
    refine bq_iald hx hb hK hP 8 7 rfl rfl ht (by decide) dd_M_end_33 ?_
    refine bq_olt (tgt := 47) hx hb (fun k hk => Nat.lt_trans (hB_10 _ k hk) (by decide)) dd_M_end_34 rfl (fun h34 => ?_) (fun h34 => ?_)
    · have eN : sp_E N O t how = sp_u (sp_u N 8 t how) 8 c9 3 := by simp [sp_E, sp_C, hc9, h34]
      exact W.vret hx hb hr (fun tt htt hWW => ⟨⟨(), rfl, trivial, by rw [htt, eN]; exact hP, va_K.moved hWW.alike hK⟩, hS.F htt⟩) hS.2.2 dd_M_end_47
    · obtain ⟨g9, hg9⟩ := bd_ne h34
      refine lv_aload_n hx hb dd_M_end_37 rfl (lv_at hl 0 rfl) ?_
      refine lv_aload_n hx hb dd_M_end_38 rfl (lv_at hl 0 rfl) ?_
      refine va_get (D := D) (ci := 4) (v := .ref (ra 10)) (C := rn_M) (T := ft_M) (N := 19) hx hb hts tw_fs_M hown hK hP 0 rfl rfl 10 (by decide) (hts _ tw_fl_M_35) (fun _ h9 => h9) rfl dd_M_end_39 ?_
      refine lv_iload_n hx hb dd_M_end_42 rfl (lv_at hl 1 rfl) ?_
      refine bq_iald hx hb hK hP 8 7 rfl rfl ht (by decide) dd_M_end_43 ?_
      rw [hg9, bd_o_s]
      refine rf_callwv (As := [.int (nI g9)]) (rest := []) ⟨hx, hb, hml, hown, hts⟩ (rc_release l D ra ca hJ (sp_u (sp_u N 8 t how) 8 c9 3) O Z B (sp_Bd_8 (sp_Bd_8 hB t how (by first | decide | omega)) c9 3 (by first | decide | omega)) g9 (hB_10 _ _ hg9)) (bg_cwV 1 hts tw_ml_M_99 tw_im_M_release tw_se_M_release tw_in_M tw_co_M_release rfl rfl th_M_release ⟨Nat.le_of_ble_eq_true rfl, Nat.le_of_ble_eq_true rfl⟩) hK hP hS rfl hl.1 rfl (by decide) dd_M_end_44 ⟨Nat.zero_le _, Nat.zero_le _⟩ (fun H locs hP hS => ?_)
      have eN : sp_E N O t how = sp_S (sp_u (sp_u N 8 t how) 8 c9 3) O g9 := by simp [sp_E, sp_C, hc9, hg9]
      exact W.vret hx hb hr (fun tt htt hWW => ⟨⟨(), rfl, trivial, by rw [htt, eN]; exact hP, va_K.moved hWW.alike hK⟩, hS.F htt⟩) hS.2.2 dd_M_end_47
end
section
/-! Part 16: the reference: queue, retarget, submit, after, whenDone, enter, leave, cancel, hold, finish. By wip/gen/gen_ref5.py. -/
set_option maxHeartbeats 4000000 in
set_option maxRecDepth 100000 in
theorem rc_queue (l : Launch) (D : va_G) (ra : Nat → Nat) (ca : Nat → ClassId) (hJ : rf_J ra) (N : sp_N) (O : sp_O) (Z : sp_Z) (B : sp_B) (hB : sp_Bd N O) (q wi : Int32) : Met l my_M_queue (Cond.code my_M_queue cd_M_queue 3 (some .int) :: bg_tbl) ({ frames := 1, cells := 0, slots := 0, locals := 21 }) (va_Pc [.ref (ra 0), .int q, .int wi] (rf_U D ra ca N O Z B)) (va_Qi (fun r (_ : Unit) => r = am_queue N (bd_at q (N 1 0)) (bd_wd wi)) (fun _ uu => rf_U D ra ca (nm_queue N (bd_at q (N 1 0)) (bd_wd wi)) O Z B uu) (rf_A ra)) 0 0 (rf_A ra) := by
  refine Met.ofW (cc := cd_M_queue) (maxL := 3) (ret := (some .int)) (by decide) rfl ?_
  intro p e s m args below meth c s₁ BB hml hv
  obtain ⟨rfl, hP, hK⟩ := hv
  have hx := BB.exec
  have hb := BB.bytes
  have hr := BB.returns
  have hts : ∀ w ∈ bg_tbl, w.before ([.ref (ra 0), .int q, .int wi] : List Value).toArray s = true := fun w h => atoms_spec (ws := (Cond.code my_M_queue cd_M_queue 3 (some .int) :: bg_tbl)) BB.pre w (List.mem_cons_of_mem _ h)
  have hown : s.vm.findClass rn_M = some m.cls := findClass_of_methodNamed BB.named
  have hlocks := BB.notSynchronized
  obtain ⟨hB_0, hB_1, hB_2, hB_3, hB_4, hB_5, hB_6, hB_7, hB_8, hB_9, hB_10, hB_11, hB_12, hB_17⟩ := id hB
  have hS : va_S (rf_A ra) s.heap s.heap [] := va_S.rf
  have hl := lv_entry ([.ref (ra 0), .int q, .int wi]) (n := 3) (Nat.le_of_ble_eq_true rfl)
  rw [lg_entry_eq]
  generalize (lg_sl ([.ref (ra 0), .int q, .int wi]) ++ List.replicate (3 - (lg_sl ([.ref (ra 0), .int q, .int wi])).length) Slot.unset).toArray = ls at hl ⊢
  have hl : lv_has ls 3 [(0, .ref (ra 0)), (1, .int q), (2, .int wi)] := hl
  refine lv_aload_n hx hb dd_M_queue_0 rfl (lv_at hl 0 rfl) ?_
  refine lv_iload_n hx hb dd_M_queue_1 rfl (lv_at hl 1 rfl) ?_
  refine rf_calli (As := [.int q]) (rest := []) (v := bd_b (bd_in q (N 1 0))) ⟨hx, hb, hml, hown, hts⟩ (rc_isQueue l D ra ca N O Z B hB q) (bg_cwV 1 hts tw_ml_M_102 tw_im_M_isQueue tw_se_M_isQueue tw_in_M tw_co_M_isQueue rfl rfl th_M_isQueue ⟨Nat.le_of_ble_eq_true rfl, Nat.le_of_ble_eq_true rfl⟩) hK hP rfl hl.1 rfl (by decide) dd_M_queue_2 ⟨Nat.zero_le _, Nat.zero_le _⟩ ?_
  refine bq_zne (tgt := 10) hx hb dd_M_queue_5 rfl (fun h5 => ?_) (fun h5 => ?_)
  · obtain ⟨a, ha9, rfl⟩ := bd_in_of h5 (by omega)
    refine lv_iload_n hx hb dd_M_queue_10 rfl (lv_at hl 2 rfl) ?_
    refine lv_iconst (v := nI 1) hx hb dd_M_queue_11 (by decide) ?_
    refine lv_icmp_lt (tgt := 21) hx hb dd_M_queue_12 rfl (fun h12 => ?_) (fun h12 => ?_)
    · refine lv_bipush (v := -9) hx hb dd_M_queue_21 (by decide) ?_
      have eN : nm_queue N (bd_at (nI a) (N 1 0)) (bd_wd wi) = N := by simp only [bd_at_in ha9 (by omega), bd_wd_1 h12]; simp [nm_queue]
      exact W.iret hx hb hr (fun tt htt hWW => ⟨⟨_, (), rfl, (by simp only [bd_at_in ha9 (by omega), bd_wd_1 h12]; simp [am_queue]), by rw [htt, eN]; exact hP, va_K.moved hWW.alike hK⟩, hS.F htt⟩) hS.2.2 dd_M_queue_23
    · refine lv_iload_n hx hb dd_M_queue_15 rfl (lv_at hl 2 rfl) ?_
      refine lv_bipush (v := nI 8) hx hb dd_M_queue_16 (by decide) ?_
      refine lv_icmp_le (tgt := 24) hx hb dd_M_queue_18 rfl (fun h18 => ?_) (fun h18 => ?_)
      · obtain ⟨b, hb1, hb8, rfl, hw9⟩ := bd_wd_3 h12 h18
        refine lv_aload_n hx hb dd_M_queue_24 rfl (lv_at hl 0 rfl) ?_
        refine va_get (D := D) (ci := 4) (v := .int (nI (N 1 0))) (C := rn_M) (T := ft_M) (N := 19) hx hb hts tw_fs_M hown hK hP 0 rfl rfl 1 (by decide) (hts _ tw_fl_M_7) (fun _ h9 => h9) rfl dd_M_queue_25 ?_
        refine lv_bipush (v := nI 12) hx hb dd_M_queue_28 (by decide) ?_
        refine bq_ne (tgt := 36) hx hb (Nat.lt_of_le_of_lt hB_1 (by decide)) (by decide) dd_M_queue_30 rfl (fun h30 => ?_) (fun h30 => ?_)
        · refine lv_aload_n hx hb dd_M_queue_36 rfl (lv_at hl 0 rfl) ?_
          refine va_get (D := D) (ci := 4) (v := .ref (ra 2)) (C := rn_M) (T := ft_M) (N := 19) hx hb hts tw_fs_M hown hK hP 0 rfl rfl 2 (by decide) (hts _ tw_fl_M_13) (fun _ h9 => h9) rfl dd_M_queue_37 ?_
          refine lv_aload_n hx hb dd_M_queue_40 rfl (lv_at hl 0 rfl) ?_
          refine va_get (D := D) (ci := 4) (v := .int (nI (N 1 0))) (C := rn_M) (T := ft_M) (N := 19) hx hb hts tw_fs_M hown hK hP 0 rfl rfl 1 (by decide) (hts _ tw_fl_M_7) (fun _ h9 => h9) rfl dd_M_queue_41 ?_
          refine lv_iload_n hx hb dd_M_queue_44 rfl (lv_at hl 1 rfl) ?_
          refine bq_iast hx hb hK hP (rf_D hJ ca N O Z B) hS 1 0 rfl rfl (by omega) (by decide) dd_M_queue_45 (fun H locs hP _ hS => ?_)
          have hP : va_P D vw_cl (rf_W ra ca (sp_u N 2 (N 1 0) a) O Z B) H := hP
          refine lv_aload_n hx hb dd_M_queue_46 rfl (lv_at hl 0 rfl) ?_
          refine va_get (D := D) (ci := 4) (v := .ref (ra 3)) (C := rn_M) (T := ft_M) (N := 19) hx hb hts tw_fs_M hown hK hP 0 rfl rfl 3 (by decide) (hts _ tw_fl_M_17) (fun _ h9 => h9) rfl dd_M_queue_47 ?_
          refine lv_aload_n hx hb dd_M_queue_50 rfl (lv_at hl 0 rfl) ?_
          refine va_get (D := D) (ci := 4) (v := .int (nI (N 1 0))) (C := rn_M) (T := ft_M) (N := 19) hx hb hts tw_fs_M hown hK hP 0 rfl rfl 1 (by decide) (hts _ tw_fl_M_7) (fun _ h9 => h9) rfl dd_M_queue_51 ?_
          refine lv_iload_n hx hb dd_M_queue_54 rfl (lv_at hl 2 rfl) ?_
          refine bq_iast hx hb hK hP (rf_D hJ ca (sp_u N 2 (N 1 0) a) O Z B) hS 2 1 rfl rfl (by omega) (by decide) dd_M_queue_55 (fun H locs hP _ hS => ?_)
          have hP : va_P D vw_cl (rf_W ra ca (sp_u (sp_u N 2 (N 1 0) a) 3 (N 1 0) b) O Z B) H := hP
          refine lv_aload_n hx hb dd_M_queue_56 rfl (lv_at hl 0 rfl) ?_
          refine lv_aload_n hx hb dd_M_queue_57 rfl (lv_at hl 0 rfl) ?_
          refine va_get (D := D) (ci := 4) (v := .int (nI (N 1 0))) (C := rn_M) (T := ft_M) (N := 19) hx hb hts tw_fs_M hown hK hP 0 rfl rfl 1 (by decide) (hts _ tw_fl_M_7) (fun _ h9 => h9) rfl dd_M_queue_58 ?_
          refine lv_iconst (v := nI 1) hx hb dd_M_queue_61 (by decide) ?_
          refine lv_iadd hx hb dd_M_queue_62 ?_
          rw [nI_add]
          refine va_put (D := D) (ci := 4) (v := .int (nI ((N 1 0) + 1))) (ty := .int) (C := rn_M) (T := ft_M) (N := 19) hx hb hts tw_fs_M fy_M fo_M fn_M hown hK hP (rf_D hJ ca (sp_u (sp_u N 2 (N 1 0) a) 3 (N 1 0) b) O Z B) hS 0 rfl rfl 1 (by decide) (hts _ tw_fl_M_7) (fun _ h9 => h9) rfl (by decide +kernel) rfl rfl (Nat.le_of_ble_eq_true rfl) dd_M_queue_63 (fun H locs hP _ hS => ?_)
          have hP : va_P D vw_cl (rf_W ra ca (sp_u (sp_u (sp_u N 2 (N 1 0) a) 3 (N 1 0) b) 1 0 ((N 1 0) + 1)) O Z B) H := hP
          refine lv_aload_n hx hb dd_M_queue_66 rfl (lv_at hl 0 rfl) ?_
          refine va_get (D := D) (ci := 4) (v := .int (nI ((N 1 0) + 1))) (C := rn_M) (T := ft_M) (N := 19) hx hb hts tw_fs_M hown hK hP 0 rfl rfl 1 (by decide) (hts _ tw_fl_M_7) (fun _ h9 => h9) rfl dd_M_queue_67 ?_
          refine lv_iconst (v := nI 1) hx hb dd_M_queue_70 (by decide) ?_
          refine lv_isub hx hb dd_M_queue_71 ?_
          rw [pk_sub (by omega)]
          have eN : nm_queue N (bd_at (nI a) (N 1 0)) (bd_wd (nI b)) = sp_u (sp_u (sp_u N 2 (N 1 0) a) 3 (N 1 0) b) 1 0 ((N 1 0) + 1) := by simp only [bd_at_in ha9 (by omega), hw9]; simp [nm_queue, h30]
          exact W.iret hx hb hr (fun tt htt hWW => ⟨⟨_, (), rfl, (by simp only [bd_at_in ha9 (by omega), hw9]; simp [am_queue, h30]), by rw [htt, eN]; exact hP, va_K.moved hWW.alike hK⟩, hS.F htt⟩) hS.2.2 dd_M_queue_72
        · refine lv_bipush (v := -4) hx hb dd_M_queue_33 (by decide) ?_
          have eN : nm_queue N (bd_at (nI a) (N 1 0)) (bd_wd (nI b)) = N := by simp only [bd_at_in ha9 (by omega), hw9]; simp [nm_queue, h30]
          exact W.iret hx hb hr (fun tt htt hWW => ⟨⟨_, (), rfl, (by simp only [bd_at_in ha9 (by omega), hw9]; simp [am_queue, h30]), by rw [htt, eN]; exact hP, va_K.moved hWW.alike hK⟩, hS.F htt⟩) hS.2.2 dd_M_queue_35
      · refine lv_bipush (v := -9) hx hb dd_M_queue_21 (by decide) ?_
        have eN : nm_queue N (bd_at (nI a) (N 1 0)) (bd_wd wi) = N := by simp only [bd_at_in ha9 (by omega), bd_wd_2 h18]; simp [nm_queue, h12]
        exact W.iret hx hb hr (fun tt htt hWW => ⟨⟨_, (), rfl, (by simp only [bd_at_in ha9 (by omega), bd_wd_2 h18]; simp [am_queue, h12]), by rw [htt, eN]; exact hP, va_K.moved hWW.alike hK⟩, hS.F htt⟩) hS.2.2 dd_M_queue_23
  · refine lv_iconst (v := -1) hx hb dd_M_queue_8 (by decide) ?_
    have eN : nm_queue N (bd_at q (N 1 0)) (bd_wd wi) = N := by simp only [bd_at_none h5]; simp [nm_queue]
    exact W.iret hx hb hr (fun tt htt hWW => ⟨⟨_, (), rfl, (by simp only [bd_at_none h5]; simp [am_queue]), by rw [htt, eN]; exact hP, va_K.moved hWW.alike hK⟩, hS.F htt⟩) hS.2.2 dd_M_queue_9

set_option maxHeartbeats 4000000 in
set_option maxRecDepth 100000 in
theorem rc_retarget (l : Launch) (D : va_G) (ra : Nat → Nat) (ca : Nat → ClassId) (hJ : rf_J ra) (N : sp_N) (O : sp_O) (Z : sp_Z) (B : sp_B) (hB : sp_Bd N O) (q ti : Int32) : Met l my_M_retarget (Cond.code my_M_retarget cd_M_retarget 3 (some .int) :: bg_tbl) ({ frames := 2, cells := 0, slots := 0, locals := 47 }) (va_Pc [.ref (ra 0), .int q, .int ti] (rf_U D ra ca N O Z B)) (va_Qi (fun r (_ : Unit) => r = am_retarget N (bd_at q (N 1 0)) (bd_at ti (N 1 0))) (fun _ uu => rf_U D ra ca (nm_retarget N (bd_at q (N 1 0)) (bd_at ti (N 1 0))) O Z B uu) (rf_A ra)) 0 0 (rf_A ra) := by
  refine Met.ofW (cc := cd_M_retarget) (maxL := 3) (ret := (some .int)) (by decide) rfl ?_
  intro p e s m args below meth c s₁ BB hml hv
  obtain ⟨rfl, hP, hK⟩ := hv
  have hx := BB.exec
  have hb := BB.bytes
  have hr := BB.returns
  have hts : ∀ w ∈ bg_tbl, w.before ([.ref (ra 0), .int q, .int ti] : List Value).toArray s = true := fun w h => atoms_spec (ws := (Cond.code my_M_retarget cd_M_retarget 3 (some .int) :: bg_tbl)) BB.pre w (List.mem_cons_of_mem _ h)
  have hown : s.vm.findClass rn_M = some m.cls := findClass_of_methodNamed BB.named
  have hlocks := BB.notSynchronized
  obtain ⟨hB_0, hB_1, hB_2, hB_3, hB_4, hB_5, hB_6, hB_7, hB_8, hB_9, hB_10, hB_11, hB_12, hB_17⟩ := id hB
  have hS : va_S (rf_A ra) s.heap s.heap [] := va_S.rf
  have hl := lv_entry ([.ref (ra 0), .int q, .int ti]) (n := 3) (Nat.le_of_ble_eq_true rfl)
  rw [lg_entry_eq]
  generalize (lg_sl ([.ref (ra 0), .int q, .int ti]) ++ List.replicate (3 - (lg_sl ([.ref (ra 0), .int q, .int ti])).length) Slot.unset).toArray = ls at hl ⊢
  have hl : lv_has ls 3 [(0, .ref (ra 0)), (1, .int q), (2, .int ti)] := hl
  refine lv_aload_n hx hb dd_M_retarget_0 rfl (lv_at hl 0 rfl) ?_
  refine lv_iload_n hx hb dd_M_retarget_1 rfl (lv_at hl 1 rfl) ?_
  refine rf_calli (As := [.int q]) (rest := []) (v := bd_b (bd_in q (N 1 0))) ⟨hx, hb, hml, hown, hts⟩ (rc_isQueue l D ra ca N O Z B hB q) (bg_cwV 1 hts tw_ml_M_102 tw_im_M_isQueue tw_se_M_isQueue tw_in_M tw_co_M_isQueue rfl rfl th_M_isQueue ⟨Nat.le_of_ble_eq_true rfl, Nat.le_of_ble_eq_true rfl⟩) hK hP rfl hl.1 rfl (by decide) dd_M_retarget_2 ⟨Nat.zero_le _, Nat.zero_le _⟩ ?_
  refine bq_zeq (tgt := 21) hx hb dd_M_retarget_5 rfl (fun h5 => ?_) (fun h5 => ?_)
  · refine lv_iconst (v := -1) hx hb dd_M_retarget_21 (by decide) ?_
    have eN : nm_retarget N (bd_at q (N 1 0)) (bd_at ti (N 1 0)) = N := by simp only [bd_at_none h5]; simp [nm_retarget]
    exact W.iret hx hb hr (fun tt htt hWW => ⟨⟨_, (), rfl, (by simp only [bd_at_none h5]; simp [am_retarget]), by rw [htt, eN]; exact hP, va_K.moved hWW.alike hK⟩, hS.F htt⟩) hS.2.2 dd_M_retarget_22
  · obtain ⟨a, ha9, rfl⟩ := bd_in_of h5 (by omega)
    refine lv_iload_n hx hb dd_M_retarget_8 rfl (lv_at hl 1 rfl) ?_
    refine lv_iconst (v := nI 3) hx hb dd_M_retarget_9 (by decide) ?_
    refine bq_lt (tgt := 21) hx hb (by omega) (by decide) dd_M_retarget_10 rfl (fun h10 => ?_) (fun h10 => ?_)
    · refine lv_iconst (v := -1) hx hb dd_M_retarget_21 (by decide) ?_
      have eN : nm_retarget N (bd_at (nI a) (N 1 0)) (bd_at ti (N 1 0)) = N := by simp only [bd_at_in ha9 (by omega)]; simp [nm_retarget, h10, Nat.not_le.mpr h10]
      exact W.iret hx hb hr (fun tt htt hWW => ⟨⟨_, (), rfl, (by simp only [bd_at_in ha9 (by omega)]; simp [am_retarget, h10, Nat.not_le.mpr h10]), by rw [htt, eN]; exact hP, va_K.moved hWW.alike hK⟩, hS.F htt⟩) hS.2.2 dd_M_retarget_22
    · refine lv_aload_n hx hb dd_M_retarget_13 rfl (lv_at hl 0 rfl) ?_
      refine lv_iload_n hx hb dd_M_retarget_14 rfl (lv_at hl 2 rfl) ?_
      refine rf_calli (As := [.int ti]) (rest := []) (v := bd_b (bd_in ti (N 1 0))) ⟨hx, hb, hml, hown, hts⟩ (rc_isQueue l D ra ca N O Z B hB ti) (bg_cwV 1 hts tw_ml_M_102 tw_im_M_isQueue tw_se_M_isQueue tw_in_M tw_co_M_isQueue rfl rfl th_M_isQueue ⟨Nat.le_of_ble_eq_true rfl, Nat.le_of_ble_eq_true rfl⟩) hK hP rfl hl.1 rfl (by decide) dd_M_retarget_15 ⟨Nat.zero_le _, Nat.zero_le _⟩ ?_
      refine bq_zne (tgt := 23) hx hb dd_M_retarget_18 rfl (fun h18 => ?_) (fun h18 => ?_)
      · obtain ⟨b, hb9, rfl⟩ := bd_in_of h18 (by omega)
        refine lv_aload_n hx hb dd_M_retarget_23 rfl (lv_at hl 0 rfl) ?_
        refine lv_iload_n hx hb dd_M_retarget_24 rfl (lv_at hl 2 rfl) ?_
        refine lv_iload_n hx hb dd_M_retarget_25 rfl (lv_at hl 1 rfl) ?_
        refine rf_calli (As := [.int (nI b), .int (nI a)]) (rest := []) (v := bd_b (sp_l N b a)) ⟨hx, hb, hml, hown, hts⟩ (rc_leads l D ra ca N O Z B hB b a (by omega) (by omega)) (bg_cwV 2 hts tw_ml_M_64 tw_im_M_leads tw_se_M_leads tw_in_M tw_co_M_leads rfl rfl th_M_leads ⟨Nat.le_of_ble_eq_true rfl, Nat.le_of_ble_eq_true rfl⟩) hK hP rfl hl.1 rfl (by decide) dd_M_retarget_26 ⟨Nat.zero_le _, Nat.zero_le _⟩ ?_
        refine bq_zeq (tgt := 35) hx hb dd_M_retarget_29 rfl (fun h29 => ?_) (fun h29 => ?_)
        · refine lv_aload_n hx hb dd_M_retarget_35 rfl (lv_at hl 0 rfl) ?_
          refine lv_iload_n hx hb dd_M_retarget_36 rfl (lv_at hl 1 rfl) ?_
          refine rf_calli (As := [.int (nI a)]) (rest := []) (v := nI (sp_p N a)) ⟨hx, hb, hml, hown, hts⟩ (rc_passing l D ra ca N O Z B hB a (by omega)) (bg_cwV 1 hts tw_ml_M_72 tw_im_M_passing tw_se_M_passing tw_in_M tw_co_M_passing rfl rfl th_M_passing ⟨Nat.le_of_ble_eq_true rfl, Nat.le_of_ble_eq_true rfl⟩) hK hP rfl hl.1 rfl (by decide) dd_M_retarget_37 ⟨Nat.zero_le _, Nat.zero_le _⟩ ?_
          refine bq_nle (tgt := 46) hx hb (Nat.lt_of_le_of_lt (Nat.le_trans (sp_c_le _ _) hB_6) (by decide)) dd_M_retarget_40 rfl (fun h40 => ?_) (fun h40 => ?_)
          · refine lv_aload_n hx hb dd_M_retarget_46 rfl (lv_at hl 0 rfl) ?_
            refine va_get (D := D) (ci := 4) (v := .ref (ra 2)) (C := rn_M) (T := ft_M) (N := 19) hx hb hts tw_fs_M hown hK hP 0 rfl rfl 2 (by decide) (hts _ tw_fl_M_13) (fun _ h9 => h9) rfl dd_M_retarget_47 ?_
            refine lv_iload_n hx hb dd_M_retarget_50 rfl (lv_at hl 1 rfl) ?_
            refine lv_iload_n hx hb dd_M_retarget_51 rfl (lv_at hl 2 rfl) ?_
            refine bq_iast hx hb hK hP (rf_D hJ ca N O Z B) hS 1 0 rfl rfl (by omega) (by decide) dd_M_retarget_52 (fun H locs hP _ hS => ?_)
            have hP : va_P D vw_cl (rf_W ra ca (sp_u N 2 a b) O Z B) H := hP
            refine lv_iconst (v := nI 0) hx hb dd_M_retarget_53 (by decide) ?_
            have eN : nm_retarget N (bd_at (nI a) (N 1 0)) (bd_at (nI b) (N 1 0)) = sp_u N 2 a b := by simp only [bd_at_in ha9 (by omega), bd_at_in hb9 (by omega)]; simp [nm_retarget, h10, Nat.not_lt.mpr h10, h29, h40]
            exact W.iret hx hb hr (fun tt htt hWW => ⟨⟨_, (), rfl, (by simp only [bd_at_in ha9 (by omega), bd_at_in hb9 (by omega)]; simp [am_retarget, h10, Nat.not_lt.mpr h10, h29, h40]), by rw [htt, eN]; exact hP, va_K.moved hWW.alike hK⟩, hS.F htt⟩) hS.2.2 dd_M_retarget_54
          · refine lv_bipush (v := -6) hx hb dd_M_retarget_43 (by decide) ?_
            have eN : nm_retarget N (bd_at (nI a) (N 1 0)) (bd_at (nI b) (N 1 0)) = N := by simp only [bd_at_in ha9 (by omega), bd_at_in hb9 (by omega)]; simp [nm_retarget, h10, Nat.not_lt.mpr h10, h29, h40, Nat.not_le.mpr h40]
            exact W.iret hx hb hr (fun tt htt hWW => ⟨⟨_, (), rfl, (by simp only [bd_at_in ha9 (by omega), bd_at_in hb9 (by omega)]; simp [am_retarget, h10, Nat.not_lt.mpr h10, h29, h40, Nat.not_le.mpr h40]), by rw [htt, eN]; exact hP, va_K.moved hWW.alike hK⟩, hS.F htt⟩) hS.2.2 dd_M_retarget_45
        · refine lv_bipush (v := -5) hx hb dd_M_retarget_32 (by decide) ?_
          have eN : nm_retarget N (bd_at (nI a) (N 1 0)) (bd_at (nI b) (N 1 0)) = N := by simp only [bd_at_in ha9 (by omega), bd_at_in hb9 (by omega)]; simp [nm_retarget, h10, Nat.not_lt.mpr h10, h29]
          exact W.iret hx hb hr (fun tt htt hWW => ⟨⟨_, (), rfl, (by simp only [bd_at_in ha9 (by omega), bd_at_in hb9 (by omega)]; simp [am_retarget, h10, Nat.not_lt.mpr h10, h29]), by rw [htt, eN]; exact hP, va_K.moved hWW.alike hK⟩, hS.F htt⟩) hS.2.2 dd_M_retarget_34
      · refine lv_iconst (v := -1) hx hb dd_M_retarget_21 (by decide) ?_
        have eN : nm_retarget N (bd_at (nI a) (N 1 0)) (bd_at ti (N 1 0)) = N := by simp only [bd_at_in ha9 (by omega), bd_at_none h18]; simp [nm_retarget, h10, Nat.not_lt.mpr h10]
        exact W.iret hx hb hr (fun tt htt hWW => ⟨⟨_, (), rfl, (by simp only [bd_at_in ha9 (by omega), bd_at_none h18]; simp [am_retarget, h10, Nat.not_lt.mpr h10]), by rw [htt, eN]; exact hP, va_K.moved hWW.alike hK⟩, hS.F htt⟩) hS.2.2 dd_M_retarget_22

set_option maxHeartbeats 4000000 in
set_option maxRecDepth 100000 in
theorem rc_submit (l : Launch) (D : va_G) (ra : Nat → Nat) (ca : Nat → ClassId) (hJ : rf_J ra) (N : sp_N) (O : sp_O) (Z : sp_Z) (B : sp_B) (hB : sp_Bd N O) (q : Int32) (bar : Bool) (gi : Int32) : Met l my_M_submit (Cond.code my_M_submit cd_M_submit 5 (some .int) :: bg_tbl) ({ frames := 1, cells := 0, slots := 0, locals := 23 }) (va_Pc [.ref (ra 0), .int q, .int (bd_b bar), .int gi] (rf_U D ra ca N O Z B)) (va_Qi (fun r (_ : Unit) => r = am_submit N (bd_at q (N 1 0)) (bd_gr gi)) (fun _ uu => rf_U D ra ca (nm_submit N (bd_at q (N 1 0)) (bd_gr gi)) (om_submit N O (bd_at q (N 1 0)) (bd_gr gi)) Z (bm_submit N B (bd_at q (N 1 0)) bar (bd_gr gi)) uu) (rf_A ra)) 0 0 (rf_A ra) := by
  refine Met.ofW (cc := cd_M_submit) (maxL := 5) (ret := (some .int)) (by decide) rfl ?_
  intro p e s m args below meth c s₁ BB hml hv
  obtain ⟨rfl, hP, hK⟩ := hv
  have hx := BB.exec
  have hb := BB.bytes
  have hr := BB.returns
  have hts : ∀ w ∈ bg_tbl, w.before ([.ref (ra 0), .int q, .int (bd_b bar), .int gi] : List Value).toArray s = true := fun w h => atoms_spec (ws := (Cond.code my_M_submit cd_M_submit 5 (some .int) :: bg_tbl)) BB.pre w (List.mem_cons_of_mem _ h)
  have hown : s.vm.findClass rn_M = some m.cls := findClass_of_methodNamed BB.named
  have hlocks := BB.notSynchronized
  obtain ⟨hB_0, hB_1, hB_2, hB_3, hB_4, hB_5, hB_6, hB_7, hB_8, hB_9, hB_10, hB_11, hB_12, hB_17⟩ := id hB
  have hS : va_S (rf_A ra) s.heap s.heap [] := va_S.rf
  have hl := lv_entry ([.ref (ra 0), .int q, .int (bd_b bar), .int gi]) (n := 5) (Nat.le_of_ble_eq_true rfl)
  rw [lg_entry_eq]
  generalize (lg_sl ([.ref (ra 0), .int q, .int (bd_b bar), .int gi]) ++ List.replicate (5 - (lg_sl ([.ref (ra 0), .int q, .int (bd_b bar), .int gi])).length) Slot.unset).toArray = ls at hl ⊢
  have hl : lv_has ls 5 [(0, .ref (ra 0)), (1, .int q), (2, .int (bd_b bar)), (3, .int gi)] := hl
  refine lv_aload_n hx hb dd_M_submit_0 rfl (lv_at hl 0 rfl) ?_
  refine lv_iload_n hx hb dd_M_submit_1 rfl (lv_at hl 1 rfl) ?_
  refine rf_calli (As := [.int q]) (rest := []) (v := bd_b (bd_in q (N 1 0))) ⟨hx, hb, hml, hown, hts⟩ (rc_isQueue l D ra ca N O Z B hB q) (bg_cwV 1 hts tw_ml_M_102 tw_im_M_isQueue tw_se_M_isQueue tw_in_M tw_co_M_isQueue rfl rfl th_M_isQueue ⟨Nat.le_of_ble_eq_true rfl, Nat.le_of_ble_eq_true rfl⟩) hK hP rfl hl.1 rfl (by decide) dd_M_submit_2 ⟨Nat.zero_le _, Nat.zero_le _⟩ ?_
  refine bq_zne (tgt := 10) hx hb dd_M_submit_5 rfl (fun h5 => ?_) (fun h5 => ?_)
  · obtain ⟨a, ha9, rfl⟩ := bd_in_of h5 (by omega)
    refine lv_iload_n hx hb dd_M_submit_10 rfl (lv_at hl 3 rfl) ?_
    refine lv_iconst (v := -1) hx hb dd_M_submit_11 (by decide) ?_
    refine lv_icmp_lt (tgt := 20) hx hb dd_M_submit_12 rfl (fun h12 => ?_) (fun h12 => ?_)
    · refine lv_bipush (v := -2) hx hb dd_M_submit_20 (by decide) ?_
      have eN : nm_submit N (bd_at (nI a) (N 1 0)) (bd_gr gi) = N := by simp only [bd_at_in ha9 (by omega), bd_gr_1 h12]; simp [nm_submit]
      have eO : om_submit N O (bd_at (nI a) (N 1 0)) (bd_gr gi) = O := by simp only [bd_at_in ha9 (by omega), bd_gr_1 h12]; simp [om_submit]
      have eB : bm_submit N B (bd_at (nI a) (N 1 0)) bar (bd_gr gi) = B := by simp only [bd_at_in ha9 (by omega), bd_gr_1 h12]; simp [bm_submit]
      exact W.iret hx hb hr (fun tt htt hWW => ⟨⟨_, (), rfl, (by simp only [bd_at_in ha9 (by omega), bd_gr_1 h12]; simp [am_submit]), by rw [htt, eN, eO, eB]; exact hP, va_K.moved hWW.alike hK⟩, hS.F htt⟩) hS.2.2 dd_M_submit_22
    · refine lv_iload_n hx hb dd_M_submit_15 rfl (lv_at hl 3 rfl) ?_
      refine lv_iconst (v := nI 3) hx hb dd_M_submit_16 (by decide) ?_
      refine lv_icmp_le (tgt := 23) hx hb dd_M_submit_17 rfl (fun h17 => ?_) (fun h17 => ?_)
      · obtain ⟨o, ho4, rfl, hg9w⟩ := bd_gr_3 h12 h17
        refine lv_aload_n hx hb dd_M_submit_23 rfl (lv_at hl 0 rfl) ?_
        refine va_get (D := D) (ci := 4) (v := .int (nI (N 6 0))) (C := rn_M) (T := ft_M) (N := 19) hx hb hts tw_fs_M hown hK hP 0 rfl rfl 6 (by decide) (hts _ tw_fl_M_61) (fun _ h9 => h9) rfl dd_M_submit_24 ?_
        refine lv_sipush (v := nI 160) hx hb dd_M_submit_27 (by decide) ?_
        refine bq_ne (tgt := 36) hx hb (Nat.lt_of_le_of_lt hB_6 (by decide)) (by decide) dd_M_submit_30 rfl (fun h30 => ?_) (fun h30 => ?_)
        · refine lv_aload_n hx hb dd_M_submit_36 rfl (lv_at hl 0 rfl) ?_
          refine lv_iload_n hx hb dd_M_submit_37 rfl (lv_at hl 1 rfl) ?_
          refine lv_iload_n hx hb dd_M_submit_38 rfl (lv_at hl 2 rfl) ?_
          refine rf_callwi (As := [.int (nI a), .int (bd_b bar)]) (rest := []) (v := nI (N 6 0)) ⟨hx, hb, hml, hown, hts⟩ (rc_accept l D ra ca hJ N O Z B (by omega) a bar (by omega)) (bg_cwV 2 hts tw_ml_M_105 tw_im_M_accept tw_se_M_accept tw_in_M tw_co_M_accept rfl rfl th_M_accept ⟨Nat.le_of_ble_eq_true rfl, Nat.le_of_ble_eq_true rfl⟩) hK hP hS rfl hl.1 rfl (by decide) dd_M_submit_39 ⟨Nat.zero_le _, Nat.zero_le _⟩ (fun H locs hP hS => ?_)
          refine lv_istore hx hb dd_M_submit_42 hl (by decide) rfl (fun ls hl => ?_)
          have hl : lv_has ls 5 [(4, .int (nI (N 6 0))), (0, .ref (ra 0)), (1, .int (nI a)), (2, .int (bd_b bar)), (3, .int (bd_o o))] := hl
          refine lv_aload_n hx hb dd_M_submit_44 rfl (lv_at hl 1 rfl) ?_
          refine va_get (D := D) (ci := 4) (v := .ref (ra 10)) (C := rn_M) (T := ft_M) (N := 19) hx hb hts tw_fs_M hown hK hP 0 rfl rfl 10 (by decide) (hts _ tw_fl_M_35) (fun _ h9 => h9) rfl dd_M_submit_45 ?_
          refine lv_iload hx hb dd_M_submit_48 (lv_at hl 0 rfl) ?_
          refine lv_iload_n hx hb dd_M_submit_50 rfl (lv_at hl 4 rfl) ?_
          refine bq_oast (v := o) hx hb hK hP (rf_D hJ ca (sp_AN N a) (sp_AO N O) Z (sp_AB N B a bar)) hS 8 7 rfl rfl (by omega) (by decide) dd_M_submit_51 (fun H locs hP _ hS => ?_)
          have hP : va_P D vw_cl (rf_W ra ca (sp_AN N a) (sp_u (sp_AO N O) 10 (N 6 0) o) Z (sp_AB N B a bar)) H := hP
          refine lv_aload_n hx hb dd_M_submit_52 rfl (lv_at hl 1 rfl) ?_
          refine lv_iload hx hb dd_M_submit_53 (lv_at hl 0 rfl) ?_
          refine rf_callwv (As := [.int (nI (N 6 0))]) (rest := []) ⟨hx, hb, hml, hown, hts⟩ (rc_line l D ra ca hJ (sp_AN N a) (sp_u (sp_AO N O) 10 (N 6 0) o) Z (sp_AB N B a bar) (N 6 0) (by omega)) (bg_cwV 1 hts tw_ml_M_95 tw_im_M_line tw_se_M_line tw_in_M tw_co_M_line rfl rfl th_M_line ⟨Nat.le_of_ble_eq_true rfl, Nat.le_of_ble_eq_true rfl⟩) hK hP hS rfl hl.1 rfl (by decide) dd_M_submit_55 ⟨Nat.zero_le _, Nat.zero_le _⟩ (fun H locs hP hS => ?_)
          refine lv_iload hx hb dd_M_submit_58 (lv_at hl 0 rfl) ?_
          have eN : nm_submit N (bd_at (nI a) (N 1 0)) (bd_gr (bd_o o)) = sp_L (sp_AN N a) (N 6 0) := by simp only [bd_at_in ha9 (by omega), hg9w]; simp [nm_submit, h30]
          have eO : om_submit N O (bd_at (nI a) (N 1 0)) (bd_gr (bd_o o)) = sp_u (sp_AO N O) 10 (N 6 0) o := by simp only [bd_at_in ha9 (by omega), hg9w]; simp [om_submit, h30]
          have eB : bm_submit N B (bd_at (nI a) (N 1 0)) bar (bd_gr (bd_o o)) = sp_AB N B a bar := by simp only [bd_at_in ha9 (by omega), hg9w]; simp [bm_submit, h30]
          exact W.iret hx hb hr (fun tt htt hWW => ⟨⟨_, (), rfl, (by simp only [bd_at_in ha9 (by omega), hg9w]; simp [am_submit, h30]), by rw [htt, eN, eO, eB]; exact hP, va_K.moved hWW.alike hK⟩, hS.F htt⟩) hS.2.2 dd_M_submit_60
        · refine lv_bipush (v := -4) hx hb dd_M_submit_33 (by decide) ?_
          have eN : nm_submit N (bd_at (nI a) (N 1 0)) (bd_gr (bd_o o)) = N := by simp only [bd_at_in ha9 (by omega), hg9w]; simp [nm_submit, h30]
          have eO : om_submit N O (bd_at (nI a) (N 1 0)) (bd_gr (bd_o o)) = O := by simp only [bd_at_in ha9 (by omega), hg9w]; simp [om_submit, h30]
          have eB : bm_submit N B (bd_at (nI a) (N 1 0)) bar (bd_gr (bd_o o)) = B := by simp only [bd_at_in ha9 (by omega), hg9w]; simp [bm_submit, h30]
          exact W.iret hx hb hr (fun tt htt hWW => ⟨⟨_, (), rfl, (by simp only [bd_at_in ha9 (by omega), hg9w]; simp [am_submit, h30]), by rw [htt, eN, eO, eB]; exact hP, va_K.moved hWW.alike hK⟩, hS.F htt⟩) hS.2.2 dd_M_submit_35
      · refine lv_bipush (v := -2) hx hb dd_M_submit_20 (by decide) ?_
        have eN : nm_submit N (bd_at (nI a) (N 1 0)) (bd_gr gi) = N := by simp only [bd_at_in ha9 (by omega), bd_gr_2 h17]; simp [nm_submit, h12]
        have eO : om_submit N O (bd_at (nI a) (N 1 0)) (bd_gr gi) = O := by simp only [bd_at_in ha9 (by omega), bd_gr_2 h17]; simp [om_submit, h12]
        have eB : bm_submit N B (bd_at (nI a) (N 1 0)) bar (bd_gr gi) = B := by simp only [bd_at_in ha9 (by omega), bd_gr_2 h17]; simp [bm_submit, h12]
        exact W.iret hx hb hr (fun tt htt hWW => ⟨⟨_, (), rfl, (by simp only [bd_at_in ha9 (by omega), bd_gr_2 h17]; simp [am_submit, h12]), by rw [htt, eN, eO, eB]; exact hP, va_K.moved hWW.alike hK⟩, hS.F htt⟩) hS.2.2 dd_M_submit_22
  · refine lv_iconst (v := -1) hx hb dd_M_submit_8 (by decide) ?_
    have eN : nm_submit N (bd_at q (N 1 0)) (bd_gr gi) = N := by simp only [bd_at_none h5]; simp [nm_submit]
    have eO : om_submit N O (bd_at q (N 1 0)) (bd_gr gi) = O := by simp only [bd_at_none h5]; simp [om_submit]
    have eB : bm_submit N B (bd_at q (N 1 0)) bar (bd_gr gi) = B := by simp only [bd_at_none h5]; simp [bm_submit]
    exact W.iret hx hb hr (fun tt htt hWW => ⟨⟨_, (), rfl, (by simp only [bd_at_none h5]; simp [am_submit]), by rw [htt, eN, eO, eB]; exact hP, va_K.moved hWW.alike hK⟩, hS.F htt⟩) hS.2.2 dd_M_submit_9

set_option maxHeartbeats 4000000 in
set_option maxRecDepth 100000 in
theorem rc_after (l : Launch) (D : va_G) (ra : Nat → Nat) (ca : Nat → ClassId) (hJ : rf_J ra) (N : sp_N) (O : sp_O) (Z : sp_Z) (B : sp_B) (hB : sp_Bd N O) (q : Int32) (d : Int64) : Met l my_M_after (Cond.code my_M_after cd_M_after 5 (some .int) :: bg_tbl) ({ frames := 1, cells := 0, slots := 0, locals := 23 }) (va_Pc [.ref (ra 0), .int q, .long d] (rf_U D ra ca N O Z B)) (va_Qi (fun r (_ : Unit) => r = am_new N (bd_at q (N 1 0))) (fun _ uu => rf_U D ra ca (nm_after N (bd_at q (N 1 0)) d) (om_after N O (bd_at q (N 1 0))) (zm_after N Z (bd_at q (N 1 0)) d) (bm_after N B (bd_at q (N 1 0))) uu) (rf_A ra)) 0 0 (rf_A ra) := by
  refine Met.ofW (cc := cd_M_after) (maxL := 5) (ret := (some .int)) (by decide) rfl ?_
  intro p e s m args below meth c s₁ BB hml hv
  obtain ⟨rfl, hP, hK⟩ := hv
  have hx := BB.exec
  have hb := BB.bytes
  have hr := BB.returns
  have hts : ∀ w ∈ bg_tbl, w.before ([.ref (ra 0), .int q, .long d] : List Value).toArray s = true := fun w h => atoms_spec (ws := (Cond.code my_M_after cd_M_after 5 (some .int) :: bg_tbl)) BB.pre w (List.mem_cons_of_mem _ h)
  have hown : s.vm.findClass rn_M = some m.cls := findClass_of_methodNamed BB.named
  have hlocks := BB.notSynchronized
  obtain ⟨hB_0, hB_1, hB_2, hB_3, hB_4, hB_5, hB_6, hB_7, hB_8, hB_9, hB_10, hB_11, hB_12, hB_17⟩ := id hB
  have hS : va_S (rf_A ra) s.heap s.heap [] := va_S.rf
  have hl := lv_entry ([.ref (ra 0), .int q, .long d]) (n := 5) (Nat.le_of_ble_eq_true rfl)
  rw [lg_entry_eq]
  generalize (lg_sl ([.ref (ra 0), .int q, .long d]) ++ List.replicate (5 - (lg_sl ([.ref (ra 0), .int q, .long d])).length) Slot.unset).toArray = ls at hl ⊢
  have hl : lv_has ls 5 [(0, .ref (ra 0)), (1, .int q), (2, .long d)] := hl
  refine lv_aload_n hx hb dd_M_after_0 rfl (lv_at hl 0 rfl) ?_
  refine lv_iload_n hx hb dd_M_after_1 rfl (lv_at hl 1 rfl) ?_
  refine rf_calli (As := [.int q]) (rest := []) (v := bd_b (bd_in q (N 1 0))) ⟨hx, hb, hml, hown, hts⟩ (rc_isQueue l D ra ca N O Z B hB q) (bg_cwV 1 hts tw_ml_M_102 tw_im_M_isQueue tw_se_M_isQueue tw_in_M tw_co_M_isQueue rfl rfl th_M_isQueue ⟨Nat.le_of_ble_eq_true rfl, Nat.le_of_ble_eq_true rfl⟩) hK hP rfl hl.1 rfl (by decide) dd_M_after_2 ⟨Nat.zero_le _, Nat.zero_le _⟩ ?_
  refine bq_zne (tgt := 10) hx hb dd_M_after_5 rfl (fun h5 => ?_) (fun h5 => ?_)
  · obtain ⟨a, ha9, rfl⟩ := bd_in_of h5 (by omega)
    refine lv_aload_n hx hb dd_M_after_10 rfl (lv_at hl 0 rfl) ?_
    refine va_get (D := D) (ci := 4) (v := .int (nI (N 6 0))) (C := rn_M) (T := ft_M) (N := 19) hx hb hts tw_fs_M hown hK hP 0 rfl rfl 6 (by decide) (hts _ tw_fl_M_61) (fun _ h9 => h9) rfl dd_M_after_11 ?_
    refine lv_sipush (v := nI 160) hx hb dd_M_after_14 (by decide) ?_
    refine bq_ne (tgt := 23) hx hb (Nat.lt_of_le_of_lt hB_6 (by decide)) (by decide) dd_M_after_17 rfl (fun h17 => ?_) (fun h17 => ?_)
    · refine lv_aload_n hx hb dd_M_after_23 rfl (lv_at hl 0 rfl) ?_
      refine lv_iload_n hx hb dd_M_after_24 rfl (lv_at hl 1 rfl) ?_
      refine lv_iconst (v := bd_b false) hx hb dd_M_after_25 (by decide) ?_
      refine rf_callwi (As := [.int (nI a), .int (bd_b false)]) (rest := []) (v := nI (N 6 0)) ⟨hx, hb, hml, hown, hts⟩ (rc_accept l D ra ca hJ N O Z B (by omega) a false (by omega)) (bg_cwV 2 hts tw_ml_M_105 tw_im_M_accept tw_se_M_accept tw_in_M tw_co_M_accept rfl rfl th_M_accept ⟨Nat.le_of_ble_eq_true rfl, Nat.le_of_ble_eq_true rfl⟩) hK hP hS rfl hl.1 rfl (by decide) dd_M_after_26 ⟨Nat.zero_le _, Nat.zero_le _⟩ (fun H locs hP hS => ?_)
      refine lv_istore hx hb dd_M_after_29 hl (by decide) rfl (fun ls hl => ?_)
      have hl : lv_has ls 5 [(4, .int (nI (N 6 0))), (0, .ref (ra 0)), (1, .int (nI a)), (2, .long d)] := hl
      refine lv_lload_n hx hb dd_M_after_31 rfl (lv_at hl 3 rfl) ?_
      refine lv_lconst (v := 0) hx hb dd_M_after_32 rfl ?_
      refine W.lcmp hx hb dd_M_after_33 ?_
      refine bq_lgt (tgt := 46) hx hb dd_M_after_34 rfl (fun h34 => ?_) (fun h34 => ?_)
      · refine lv_aload_n hx hb dd_M_after_46 rfl (lv_at hl 1 rfl) ?_
        refine va_get (D := D) (ci := 4) (v := .ref (ra 13)) (C := rn_M) (T := ft_M) (N := 19) hx hb hts tw_fs_M hown hK hP 0 rfl rfl 13 (by decide) (hts _ tw_fl_M_44) (fun _ h9 => h9) rfl dd_M_after_47 ?_
        refine lv_iload hx hb dd_M_after_50 (lv_at hl 0 rfl) ?_
        refine lv_lload_n hx hb dd_M_after_52 rfl (lv_at hl 3 rfl) ?_
        refine lv_ldc2 (v := 9223372036854775807) hx hb hown (hts _ tw_k2_M_109) dd_M_after_53 ?_
        refine lv_aload_n hx hb dd_M_after_56 rfl (lv_at hl 1 rfl) ?_
        refine va_get (D := D) (ci := 4) (v := .long (Z 18 0)) (C := rn_M) (T := ft_M) (N := 19) hx hb hts tw_fs_M hown hK hP 0 rfl rfl 18 (by decide) (hts _ tw_fl_M_111) (fun _ h9 => h9) rfl dd_M_after_57 ?_
        refine lv_lsub hx hb dd_M_after_60 ?_
        refine W.lcmp hx hb dd_M_after_61 ?_
        refine bq_llt (tgt := 71) hx hb dd_M_after_62 rfl (fun h62 => ?_) (fun h62 => ?_)
        · refine lv_aload_n hx hb dd_M_after_71 rfl (lv_at hl 1 rfl) ?_
          refine va_get (D := D) (ci := 4) (v := .long (Z 18 0)) (C := rn_M) (T := ft_M) (N := 19) hx hb hts tw_fs_M hown hK hP 0 rfl rfl 18 (by decide) (hts _ tw_fl_M_111) (fun _ h9 => h9) rfl dd_M_after_72 ?_
          refine lv_lload_n hx hb dd_M_after_75 rfl (lv_at hl 3 rfl) ?_
          refine lv_ladd hx hb dd_M_after_76 ?_
          refine bq_last hx hb hK hP (rf_D hJ ca (sp_AN N a) (sp_AO N O) Z (sp_AB N B a false)) hS 11 10 rfl rfl (by omega) (by decide) dd_M_after_77 (fun H locs hP _ hS => ?_)
          have hP : va_P D vw_cl (rf_W ra ca (sp_AN N a) (sp_AO N O) (sp_u Z 13 (N 6 0) ((Z 18 0) + d)) (sp_AB N B a false)) H := hP
          refine lv_iload hx hb dd_M_after_78 (lv_at hl 0 rfl) ?_
          have eN : nm_after N (bd_at (nI a) (N 1 0)) d = sp_AN N a := by simp only [bd_at_in ha9 (by omega)]; simp [nm_after, zm_dl, h17, Int64.not_le.mpr h34, h62]
          have eO : om_after N O (bd_at (nI a) (N 1 0)) = sp_AO N O := by simp only [bd_at_in ha9 (by omega)]; simp [om_after, zm_dl, h17, Int64.not_le.mpr h34, h62]
          have eZ : zm_after N Z (bd_at (nI a) (N 1 0)) d = sp_u Z 13 (N 6 0) ((Z 18 0) + d) := by simp only [bd_at_in ha9 (by omega)]; simp [zm_after, zm_dl, h17, Int64.not_le.mpr h34, h62]
          have eB : bm_after N B (bd_at (nI a) (N 1 0)) = sp_AB N B a false := by simp only [bd_at_in ha9 (by omega)]; simp [bm_after, zm_dl, h17, Int64.not_le.mpr h34, h62]
          exact W.iret hx hb hr (fun tt htt hWW => ⟨⟨_, (), rfl, (by simp only [bd_at_in ha9 (by omega)]; simp [am_new, h17, Int64.not_le.mpr h34, h62]), by rw [htt, eN, eO, eZ, eB]; exact hP, va_K.moved hWW.alike hK⟩, hS.F htt⟩) hS.2.2 dd_M_after_80
        · refine lv_ldc2 (v := 9223372036854775807) hx hb hown (hts _ tw_k2_M_109) dd_M_after_65 ?_
          refine lv_goto (tgt := 77) hx hb dd_M_after_68 rfl ?_
          refine bq_last hx hb hK hP (rf_D hJ ca (sp_AN N a) (sp_AO N O) Z (sp_AB N B a false)) hS 11 10 rfl rfl (by omega) (by decide) dd_M_after_77 (fun H locs hP _ hS => ?_)
          have hP : va_P D vw_cl (rf_W ra ca (sp_AN N a) (sp_AO N O) (sp_u Z 13 (N 6 0) 9223372036854775807) (sp_AB N B a false)) H := hP
          refine lv_iload hx hb dd_M_after_78 (lv_at hl 0 rfl) ?_
          have eN : nm_after N (bd_at (nI a) (N 1 0)) d = sp_AN N a := by simp only [bd_at_in ha9 (by omega)]; simp [nm_after, zm_dl, h17, Int64.not_le.mpr h34, Int64.not_lt.mpr h62]
          have eO : om_after N O (bd_at (nI a) (N 1 0)) = sp_AO N O := by simp only [bd_at_in ha9 (by omega)]; simp [om_after, zm_dl, h17, Int64.not_le.mpr h34, Int64.not_lt.mpr h62]
          have eZ : zm_after N Z (bd_at (nI a) (N 1 0)) d = sp_u Z 13 (N 6 0) 9223372036854775807 := by simp only [bd_at_in ha9 (by omega)]; simp [zm_after, zm_dl, h17, Int64.not_le.mpr h34, Int64.not_lt.mpr h62]
          have eB : bm_after N B (bd_at (nI a) (N 1 0)) = sp_AB N B a false := by simp only [bd_at_in ha9 (by omega)]; simp [bm_after, zm_dl, h17, Int64.not_le.mpr h34, Int64.not_lt.mpr h62]
          exact W.iret hx hb hr (fun tt htt hWW => ⟨⟨_, (), rfl, (by simp only [bd_at_in ha9 (by omega)]; simp [am_new, h17, Int64.not_le.mpr h34, Int64.not_lt.mpr h62]), by rw [htt, eN, eO, eZ, eB]; exact hP, va_K.moved hWW.alike hK⟩, hS.F htt⟩) hS.2.2 dd_M_after_80
      · refine lv_aload_n hx hb dd_M_after_37 rfl (lv_at hl 1 rfl) ?_
        refine lv_iload hx hb dd_M_after_38 (lv_at hl 0 rfl) ?_
        refine rf_callwv (As := [.int (nI (N 6 0))]) (rest := []) ⟨hx, hb, hml, hown, hts⟩ (rc_line l D ra ca hJ (sp_AN N a) (sp_AO N O) Z (sp_AB N B a false) (N 6 0) (by omega)) (bg_cwV 1 hts tw_ml_M_95 tw_im_M_line tw_se_M_line tw_in_M tw_co_M_line rfl rfl th_M_line ⟨Nat.le_of_ble_eq_true rfl, Nat.le_of_ble_eq_true rfl⟩) hK hP hS rfl hl.1 rfl (by decide) dd_M_after_40 ⟨Nat.zero_le _, Nat.zero_le _⟩ (fun H locs hP hS => ?_)
        refine lv_goto (tgt := 78) hx hb dd_M_after_43 rfl ?_
        refine lv_iload hx hb dd_M_after_78 (lv_at hl 0 rfl) ?_
        have eN : nm_after N (bd_at (nI a) (N 1 0)) d = sp_L (sp_AN N a) (N 6 0) := by simp only [bd_at_in ha9 (by omega)]; simp [nm_after, zm_dl, h17, h34]
        have eO : om_after N O (bd_at (nI a) (N 1 0)) = sp_AO N O := by simp only [bd_at_in ha9 (by omega)]; simp [om_after, zm_dl, h17, h34]
        have eZ : zm_after N Z (bd_at (nI a) (N 1 0)) d = Z := by simp only [bd_at_in ha9 (by omega)]; simp [zm_after, zm_dl, h17, h34]
        have eB : bm_after N B (bd_at (nI a) (N 1 0)) = sp_AB N B a false := by simp only [bd_at_in ha9 (by omega)]; simp [bm_after, zm_dl, h17, h34]
        exact W.iret hx hb hr (fun tt htt hWW => ⟨⟨_, (), rfl, (by simp only [bd_at_in ha9 (by omega)]; simp [am_new, h17, h34]), by rw [htt, eN, eO, eZ, eB]; exact hP, va_K.moved hWW.alike hK⟩, hS.F htt⟩) hS.2.2 dd_M_after_80
    · refine lv_bipush (v := -4) hx hb dd_M_after_20 (by decide) ?_
      have eN : nm_after N (bd_at (nI a) (N 1 0)) d = N := by simp only [bd_at_in ha9 (by omega)]; simp [nm_after, zm_dl, h17]
      have eO : om_after N O (bd_at (nI a) (N 1 0)) = O := by simp only [bd_at_in ha9 (by omega)]; simp [om_after, zm_dl, h17]
      have eZ : zm_after N Z (bd_at (nI a) (N 1 0)) d = Z := by simp only [bd_at_in ha9 (by omega)]; simp [zm_after, zm_dl, h17]
      have eB : bm_after N B (bd_at (nI a) (N 1 0)) = B := by simp only [bd_at_in ha9 (by omega)]; simp [bm_after, zm_dl, h17]
      exact W.iret hx hb hr (fun tt htt hWW => ⟨⟨_, (), rfl, (by simp only [bd_at_in ha9 (by omega)]; simp [am_new, h17]), by rw [htt, eN, eO, eZ, eB]; exact hP, va_K.moved hWW.alike hK⟩, hS.F htt⟩) hS.2.2 dd_M_after_22
  · refine lv_iconst (v := -1) hx hb dd_M_after_8 (by decide) ?_
    have eN : nm_after N (bd_at q (N 1 0)) d = N := by simp only [bd_at_none h5]; simp [nm_after, zm_dl]
    have eO : om_after N O (bd_at q (N 1 0)) = O := by simp only [bd_at_none h5]; simp [om_after, zm_dl]
    have eZ : zm_after N Z (bd_at q (N 1 0)) d = Z := by simp only [bd_at_none h5]; simp [zm_after, zm_dl]
    have eB : bm_after N B (bd_at q (N 1 0)) = B := by simp only [bd_at_none h5]; simp [bm_after, zm_dl]
    exact W.iret hx hb hr (fun tt htt hWW => ⟨⟨_, (), rfl, (by simp only [bd_at_none h5]; simp [am_new]), by rw [htt, eN, eO, eZ, eB]; exact hP, va_K.moved hWW.alike hK⟩, hS.F htt⟩) hS.2.2 dd_M_after_9

set_option maxHeartbeats 4000000 in
set_option maxRecDepth 100000 in
theorem rc_whenDone (l : Launch) (D : va_G) (ra : Nat → Nat) (ca : Nat → ClassId) (hJ : rf_J ra) (N : sp_N) (O : sp_O) (Z : sp_Z) (B : sp_B) (hB : sp_Bd N O) (gi q : Int32) : Met l my_M_whenDone (Cond.code my_M_whenDone cd_M_whenDone 4 (some .int) :: bg_tbl) ({ frames := 1, cells := 0, slots := 0, locals := 23 }) (va_Pc [.ref (ra 0), .int gi, .int q] (rf_U D ra ca N O Z B)) (va_Qi (fun r (_ : Unit) => r = am_when N (bd_at gi 4) (bd_at q (N 1 0))) (fun _ uu => rf_U D ra ca (nm_when N O (bd_at gi 4) (bd_at q (N 1 0))) (om_when N O (bd_at gi 4) (bd_at q (N 1 0))) Z (bm_when N B (bd_at gi 4) (bd_at q (N 1 0))) uu) (rf_A ra)) 0 0 (rf_A ra) := by
  refine Met.ofW (cc := cd_M_whenDone) (maxL := 4) (ret := (some .int)) (by decide) rfl ?_
  intro p e s m args below meth c s₁ BB hml hv
  obtain ⟨rfl, hP, hK⟩ := hv
  have hx := BB.exec
  have hb := BB.bytes
  have hr := BB.returns
  have hts : ∀ w ∈ bg_tbl, w.before ([.ref (ra 0), .int gi, .int q] : List Value).toArray s = true := fun w h => atoms_spec (ws := (Cond.code my_M_whenDone cd_M_whenDone 4 (some .int) :: bg_tbl)) BB.pre w (List.mem_cons_of_mem _ h)
  have hown : s.vm.findClass rn_M = some m.cls := findClass_of_methodNamed BB.named
  have hlocks := BB.notSynchronized
  obtain ⟨hB_0, hB_1, hB_2, hB_3, hB_4, hB_5, hB_6, hB_7, hB_8, hB_9, hB_10, hB_11, hB_12, hB_17⟩ := id hB
  have hS : va_S (rf_A ra) s.heap s.heap [] := va_S.rf
  have hl := lv_entry ([.ref (ra 0), .int gi, .int q]) (n := 4) (Nat.le_of_ble_eq_true rfl)
  rw [lg_entry_eq]
  generalize (lg_sl ([.ref (ra 0), .int gi, .int q]) ++ List.replicate (4 - (lg_sl ([.ref (ra 0), .int gi, .int q])).length) Slot.unset).toArray = ls at hl ⊢
  have hl : lv_has ls 4 [(0, .ref (ra 0)), (1, .int gi), (2, .int q)] := hl
  refine lv_iload_n hx hb dd_M_whenDone_0 rfl (lv_at hl 1 rfl) ?_
  refine lv_if_lt (tgt := 9) hx hb dd_M_whenDone_1 rfl (fun h1 => ?_) (fun h1 => ?_)
  · refine lv_bipush (v := -2) hx hb dd_M_whenDone_9 (by decide) ?_
    have eN : nm_when N O (bd_at gi 4) (bd_at q (N 1 0)) = N := by simp only [bd_at_none (bd_in_1 h1)]; simp [nm_when]
    have eO : om_when N O (bd_at gi 4) (bd_at q (N 1 0)) = O := by simp only [bd_at_none (bd_in_1 h1)]; simp [om_when]
    have eB : bm_when N B (bd_at gi 4) (bd_at q (N 1 0)) = B := by simp only [bd_at_none (bd_in_1 h1)]; simp [bm_when]
    exact W.iret hx hb hr (fun tt htt hWW => ⟨⟨_, (), rfl, (by simp only [bd_at_none (bd_in_1 h1)]; simp [am_when, am_new]), by rw [htt, eN, eO, eB]; exact hP, va_K.moved hWW.alike hK⟩, hS.F htt⟩) hS.2.2 dd_M_whenDone_11
  · refine lv_iload_n hx hb dd_M_whenDone_4 rfl (lv_at hl 1 rfl) ?_
    refine lv_iconst (v := nI 3) hx hb dd_M_whenDone_5 (by decide) ?_
    refine lv_icmp_le (tgt := 12) hx hb dd_M_whenDone_6 rfl (fun h6 => ?_) (fun h6 => ?_)
    · obtain ⟨k, hk9, rfl⟩ := bd_in_of (bd_in_4 h1 h6) (by decide)
      refine lv_aload_n hx hb dd_M_whenDone_12 rfl (lv_at hl 0 rfl) ?_
      refine lv_iload_n hx hb dd_M_whenDone_13 rfl (lv_at hl 2 rfl) ?_
      refine rf_calli (As := [.int q]) (rest := []) (v := bd_b (bd_in q (N 1 0))) ⟨hx, hb, hml, hown, hts⟩ (rc_isQueue l D ra ca N O Z B hB q) (bg_cwV 1 hts tw_ml_M_102 tw_im_M_isQueue tw_se_M_isQueue tw_in_M tw_co_M_isQueue rfl rfl th_M_isQueue ⟨Nat.le_of_ble_eq_true rfl, Nat.le_of_ble_eq_true rfl⟩) hK hP rfl hl.1 rfl (by decide) dd_M_whenDone_14 ⟨Nat.zero_le _, Nat.zero_le _⟩ ?_
      refine bq_zne (tgt := 22) hx hb dd_M_whenDone_17 rfl (fun h17 => ?_) (fun h17 => ?_)
      · obtain ⟨a, ha9, rfl⟩ := bd_in_of h17 (by omega)
        refine lv_aload_n hx hb dd_M_whenDone_22 rfl (lv_at hl 0 rfl) ?_
        refine va_get (D := D) (ci := 4) (v := .int (nI (N 6 0))) (C := rn_M) (T := ft_M) (N := 19) hx hb hts tw_fs_M hown hK hP 0 rfl rfl 6 (by decide) (hts _ tw_fl_M_61) (fun _ h9 => h9) rfl dd_M_whenDone_23 ?_
        refine lv_sipush (v := nI 160) hx hb dd_M_whenDone_26 (by decide) ?_
        refine bq_ne (tgt := 35) hx hb (Nat.lt_of_le_of_lt hB_6 (by decide)) (by decide) dd_M_whenDone_29 rfl (fun h29 => ?_) (fun h29 => ?_)
        · refine lv_aload_n hx hb dd_M_whenDone_35 rfl (lv_at hl 0 rfl) ?_
          refine lv_iload_n hx hb dd_M_whenDone_36 rfl (lv_at hl 2 rfl) ?_
          refine lv_iconst (v := bd_b false) hx hb dd_M_whenDone_37 (by decide) ?_
          refine rf_callwi (As := [.int (nI a), .int (bd_b false)]) (rest := []) (v := nI (N 6 0)) ⟨hx, hb, hml, hown, hts⟩ (rc_accept l D ra ca hJ N O Z B (by omega) a false (by omega)) (bg_cwV 2 hts tw_ml_M_105 tw_im_M_accept tw_se_M_accept tw_in_M tw_co_M_accept rfl rfl th_M_accept ⟨Nat.le_of_ble_eq_true rfl, Nat.le_of_ble_eq_true rfl⟩) hK hP hS rfl hl.1 rfl (by decide) dd_M_whenDone_38 ⟨Nat.zero_le _, Nat.zero_le _⟩ (fun H locs hP hS => ?_)
          refine lv_istore_n hx hb dd_M_whenDone_41 rfl hl (by decide) rfl (fun ls hl => ?_)
          have hl : lv_has ls 4 [(3, .int (nI (N 6 0))), (0, .ref (ra 0)), (1, .int (nI k)), (2, .int (nI a))] := hl
          refine lv_aload_n hx hb dd_M_whenDone_42 rfl (lv_at hl 1 rfl) ?_
          refine va_get (D := D) (ci := 4) (v := .ref (ra 11)) (C := rn_M) (T := ft_M) (N := 19) hx hb hts tw_fs_M hown hK hP 0 rfl rfl 11 (by decide) (hts _ tw_fl_M_38) (fun _ h9 => h9) rfl dd_M_whenDone_43 ?_
          refine lv_iload_n hx hb dd_M_whenDone_46 rfl (lv_at hl 0 rfl) ?_
          refine lv_iload_n hx hb dd_M_whenDone_47 rfl (lv_at hl 2 rfl) ?_
          refine bq_oast (v := some k) hx hb hK hP (rf_D hJ ca (sp_AN N a) (sp_AO N O) Z (sp_AB N B a false)) hS 9 8 rfl rfl (by omega) (by decide) dd_M_whenDone_48 (fun H locs hP _ hS => ?_)
          have hP : va_P D vw_cl (rf_W ra ca (sp_AN N a) (sp_u (sp_AO N O) 11 (N 6 0) (some k)) Z (sp_AB N B a false)) H := hP
          refine lv_aload_n hx hb dd_M_whenDone_49 rfl (lv_at hl 1 rfl) ?_
          refine lv_iload_n hx hb dd_M_whenDone_50 rfl (lv_at hl 2 rfl) ?_
          refine rf_calli (As := [.int (nI k)]) (rest := []) (v := nI (sp_g (sp_AN N a) (sp_u (sp_AO N O) 11 (N 6 0) (some k)) k)) ⟨hx, hb, hml, hown, hts⟩ (rc_countOf l D ra ca (sp_AN N a) (sp_u (sp_AO N O) 11 (N 6 0) (some k)) Z (sp_AB N B a false) (sp_Bd_A hB (by omega) (by omega) hk9) k (by omega)) (bg_cwV 1 hts tw_ml_M_92 tw_im_M_countOf tw_se_M_countOf tw_in_M tw_co_M_countOf rfl rfl th_M_countOf ⟨Nat.le_of_ble_eq_true rfl, Nat.le_of_ble_eq_true rfl⟩) hK hP rfl hl.1 rfl (by decide) dd_M_whenDone_51 ⟨Nat.zero_le _, Nat.zero_le _⟩ ?_
          refine bq_nne (tgt := 65) hx hb (sp_g_lt (sp_Bd_A hB (by omega) (by omega) hk9) _) dd_M_whenDone_54 rfl (fun h54 => ?_) (fun h54 => ?_)
          · refine lv_aload_n hx hb dd_M_whenDone_65 rfl (lv_at hl 1 rfl) ?_
            refine va_get (D := D) (ci := 4) (v := .ref (ra 8)) (C := rn_M) (T := ft_M) (N := 19) hx hb hts tw_fs_M hown hK hP 0 rfl rfl 8 (by decide) (hts _ tw_fl_M_29) (fun _ h9 => h9) rfl dd_M_whenDone_66 ?_
            refine lv_iload_n hx hb dd_M_whenDone_69 rfl (lv_at hl 0 rfl) ?_
            refine lv_iconst (v := nI 0) hx hb dd_M_whenDone_70 (by decide) ?_
            refine bq_iast hx hb hK hP (rf_D hJ ca (sp_AN N a) (sp_u (sp_AO N O) 11 (N 6 0) (some k)) Z (sp_AB N B a false)) hS 6 5 rfl rfl (by omega) (by decide) dd_M_whenDone_71 (fun H locs hP _ hS => ?_)
            have hP : va_P D vw_cl (rf_W ra ca (sp_u (sp_AN N a) 8 (N 6 0) 0) (sp_u (sp_AO N O) 11 (N 6 0) (some k)) Z (sp_AB N B a false)) H := hP
            refine lv_iload_n hx hb dd_M_whenDone_72 rfl (lv_at hl 0 rfl) ?_
            have eN : nm_when N O (bd_at (nI k) 4) (bd_at (nI a) (N 1 0)) = sp_u (sp_AN N a) 8 (N 6 0) 0 := by simp only [bd_at_in hk9 (by decide), bd_at_in ha9 (by omega)]; simp [nm_when, h29, h54]
            have eO : om_when N O (bd_at (nI k) 4) (bd_at (nI a) (N 1 0)) = sp_u (sp_AO N O) 11 (N 6 0) (some k) := by simp only [bd_at_in hk9 (by decide), bd_at_in ha9 (by omega)]; simp [om_when, h29, h54]
            have eB : bm_when N B (bd_at (nI k) 4) (bd_at (nI a) (N 1 0)) = sp_AB N B a false := by simp only [bd_at_in hk9 (by decide), bd_at_in ha9 (by omega)]; simp [bm_when, h29, h54]
            exact W.iret hx hb hr (fun tt htt hWW => ⟨⟨_, (), rfl, (by simp only [bd_at_in hk9 (by decide), bd_at_in ha9 (by omega)]; simp [am_when, am_new, h29, h54]), by rw [htt, eN, eO, eB]; exact hP, va_K.moved hWW.alike hK⟩, hS.F htt⟩) hS.2.2 dd_M_whenDone_73
          · refine lv_aload_n hx hb dd_M_whenDone_57 rfl (lv_at hl 1 rfl) ?_
            refine lv_iload_n hx hb dd_M_whenDone_58 rfl (lv_at hl 0 rfl) ?_
            refine rf_callwv (As := [.int (nI (N 6 0))]) (rest := []) ⟨hx, hb, hml, hown, hts⟩ (rc_line l D ra ca hJ (sp_AN N a) (sp_u (sp_AO N O) 11 (N 6 0) (some k)) Z (sp_AB N B a false) (N 6 0) (by omega)) (bg_cwV 1 hts tw_ml_M_95 tw_im_M_line tw_se_M_line tw_in_M tw_co_M_line rfl rfl th_M_line ⟨Nat.le_of_ble_eq_true rfl, Nat.le_of_ble_eq_true rfl⟩) hK hP hS rfl hl.1 rfl (by decide) dd_M_whenDone_59 ⟨Nat.zero_le _, Nat.zero_le _⟩ (fun H locs hP hS => ?_)
            refine lv_goto (tgt := 72) hx hb dd_M_whenDone_62 rfl ?_
            refine lv_iload_n hx hb dd_M_whenDone_72 rfl (lv_at hl 0 rfl) ?_
            have eN : nm_when N O (bd_at (nI k) 4) (bd_at (nI a) (N 1 0)) = sp_L (sp_AN N a) (N 6 0) := by simp only [bd_at_in hk9 (by decide), bd_at_in ha9 (by omega)]; simp [nm_when, h29, h54]
            have eO : om_when N O (bd_at (nI k) 4) (bd_at (nI a) (N 1 0)) = sp_u (sp_AO N O) 11 (N 6 0) (some k) := by simp only [bd_at_in hk9 (by decide), bd_at_in ha9 (by omega)]; simp [om_when, h29, h54]
            have eB : bm_when N B (bd_at (nI k) 4) (bd_at (nI a) (N 1 0)) = sp_AB N B a false := by simp only [bd_at_in hk9 (by decide), bd_at_in ha9 (by omega)]; simp [bm_when, h29, h54]
            exact W.iret hx hb hr (fun tt htt hWW => ⟨⟨_, (), rfl, (by simp only [bd_at_in hk9 (by decide), bd_at_in ha9 (by omega)]; simp [am_when, am_new, h29, h54]), by rw [htt, eN, eO, eB]; exact hP, va_K.moved hWW.alike hK⟩, hS.F htt⟩) hS.2.2 dd_M_whenDone_73
        · refine lv_bipush (v := -4) hx hb dd_M_whenDone_32 (by decide) ?_
          have eN : nm_when N O (bd_at (nI k) 4) (bd_at (nI a) (N 1 0)) = N := by simp only [bd_at_in hk9 (by decide), bd_at_in ha9 (by omega)]; simp [nm_when, h29]
          have eO : om_when N O (bd_at (nI k) 4) (bd_at (nI a) (N 1 0)) = O := by simp only [bd_at_in hk9 (by decide), bd_at_in ha9 (by omega)]; simp [om_when, h29]
          have eB : bm_when N B (bd_at (nI k) 4) (bd_at (nI a) (N 1 0)) = B := by simp only [bd_at_in hk9 (by decide), bd_at_in ha9 (by omega)]; simp [bm_when, h29]
          exact W.iret hx hb hr (fun tt htt hWW => ⟨⟨_, (), rfl, (by simp only [bd_at_in hk9 (by decide), bd_at_in ha9 (by omega)]; simp [am_when, am_new, h29]), by rw [htt, eN, eO, eB]; exact hP, va_K.moved hWW.alike hK⟩, hS.F htt⟩) hS.2.2 dd_M_whenDone_34
      · refine lv_iconst (v := -1) hx hb dd_M_whenDone_20 (by decide) ?_
        have eN : nm_when N O (bd_at (nI k) 4) (bd_at q (N 1 0)) = N := by simp only [bd_at_in hk9 (by decide), bd_at_none h17]; simp [nm_when]
        have eO : om_when N O (bd_at (nI k) 4) (bd_at q (N 1 0)) = O := by simp only [bd_at_in hk9 (by decide), bd_at_none h17]; simp [om_when]
        have eB : bm_when N B (bd_at (nI k) 4) (bd_at q (N 1 0)) = B := by simp only [bd_at_in hk9 (by decide), bd_at_none h17]; simp [bm_when]
        exact W.iret hx hb hr (fun tt htt hWW => ⟨⟨_, (), rfl, (by simp only [bd_at_in hk9 (by decide), bd_at_none h17]; simp [am_when, am_new]), by rw [htt, eN, eO, eB]; exact hP, va_K.moved hWW.alike hK⟩, hS.F htt⟩) hS.2.2 dd_M_whenDone_21
    · refine lv_bipush (v := -2) hx hb dd_M_whenDone_9 (by decide) ?_
      have eN : nm_when N O (bd_at gi 4) (bd_at q (N 1 0)) = N := by simp only [bd_at_none (bd_in_5 h6)]; simp [nm_when]
      have eO : om_when N O (bd_at gi 4) (bd_at q (N 1 0)) = O := by simp only [bd_at_none (bd_in_5 h6)]; simp [om_when]
      have eB : bm_when N B (bd_at gi 4) (bd_at q (N 1 0)) = B := by simp only [bd_at_none (bd_in_5 h6)]; simp [bm_when]
      exact W.iret hx hb hr (fun tt htt hWW => ⟨⟨_, (), rfl, (by simp only [bd_at_none (bd_in_5 h6)]; simp [am_when, am_new]), by rw [htt, eN, eO, eB]; exact hP, va_K.moved hWW.alike hK⟩, hS.F htt⟩) hS.2.2 dd_M_whenDone_11

set_option maxHeartbeats 4000000 in
set_option maxRecDepth 100000 in
theorem rc_enter (l : Launch) (D : va_G) (ra : Nat → Nat) (ca : Nat → ClassId) (hJ : rf_J ra) (N : sp_N) (O : sp_O) (Z : sp_Z) (B : sp_B) (hB : sp_Bd N O) (gi : Int32) : Met l my_M_enter (Cond.code my_M_enter cd_M_enter 2 (some .boolean) :: bg_tbl) ({ frames := 0, cells := 0, slots := 0, locals := 0 }) (va_Pc [.ref (ra 0), .int gi] (rf_U D ra ca N O Z B)) (va_Qi (fun r (_ : Unit) => r = bd_b (am_enter N (bd_at gi 4))) (fun _ uu => rf_U D ra ca (nm_enter N (bd_at gi 4)) O Z B uu) (rf_A ra)) 0 0 (rf_A ra) := by
  refine Met.ofW (cc := cd_M_enter) (maxL := 2) (ret := (some .boolean)) (by decide) rfl ?_
  intro p e s m args below meth c s₁ BB hml hv
  obtain ⟨rfl, hP, hK⟩ := hv
  have hx := BB.exec
  have hb := BB.bytes
  have hr := BB.returns
  have hts : ∀ w ∈ bg_tbl, w.before ([.ref (ra 0), .int gi] : List Value).toArray s = true := fun w h => atoms_spec (ws := (Cond.code my_M_enter cd_M_enter 2 (some .boolean) :: bg_tbl)) BB.pre w (List.mem_cons_of_mem _ h)
  have hown : s.vm.findClass rn_M = some m.cls := findClass_of_methodNamed BB.named
  have hlocks := BB.notSynchronized
  obtain ⟨hB_0, hB_1, hB_2, hB_3, hB_4, hB_5, hB_6, hB_7, hB_8, hB_9, hB_10, hB_11, hB_12, hB_17⟩ := id hB
  have hS : va_S (rf_A ra) s.heap s.heap [] := va_S.rf
  have hl := lv_entry ([.ref (ra 0), .int gi]) (n := 2) (Nat.le_of_ble_eq_true rfl)
  rw [lg_entry_eq]
  generalize (lg_sl ([.ref (ra 0), .int gi]) ++ List.replicate (2 - (lg_sl ([.ref (ra 0), .int gi])).length) Slot.unset).toArray = ls at hl ⊢
  have hl : lv_has ls 2 [(0, .ref (ra 0)), (1, .int gi)] := hl
  refine lv_iload_n hx hb dd_M_enter_0 rfl (lv_at hl 1 rfl) ?_
  refine lv_if_lt (tgt := 21) hx hb dd_M_enter_1 rfl (fun h1 => ?_) (fun h1 => ?_)
  · refine lv_iconst (v := bd_b false) hx hb dd_M_enter_21 (by decide) ?_
    have eN : nm_enter N (bd_at gi 4) = N := by simp only [bd_at_none (bd_in_1 h1)]; simp [nm_enter]
    exact W.zret (ty := .boolean) hx hb hr (bd_b_nar _) (fun tt htt hWW => ⟨⟨_, (), rfl, (by simp only [bd_at_none (bd_in_1 h1)]; simp [am_enter]), by rw [htt, eN]; exact hP, va_K.moved hWW.alike hK⟩, hS.F htt⟩) hS.2.2 dd_M_enter_22
  · refine lv_iload_n hx hb dd_M_enter_4 rfl (lv_at hl 1 rfl) ?_
    refine lv_iconst (v := nI 3) hx hb dd_M_enter_5 (by decide) ?_
    refine lv_icmp_gt (tgt := 21) hx hb dd_M_enter_6 rfl (fun h6 => ?_) (fun h6 => ?_)
    · refine lv_iconst (v := bd_b false) hx hb dd_M_enter_21 (by decide) ?_
      have eN : nm_enter N (bd_at gi 4) = N := by simp only [bd_at_none (bd_in_5 (Int32.not_le.mpr h6))]; simp [nm_enter]
      exact W.zret (ty := .boolean) hx hb hr (bd_b_nar _) (fun tt htt hWW => ⟨⟨_, (), rfl, (by simp only [bd_at_none (bd_in_5 (Int32.not_le.mpr h6))]; simp [am_enter]), by rw [htt, eN]; exact hP, va_K.moved hWW.alike hK⟩, hS.F htt⟩) hS.2.2 dd_M_enter_22
    · obtain ⟨k, hk9, rfl⟩ := bd_in_of (bd_in_4 h1 (Int32.not_lt.mp h6)) (by decide)
      have h17k := hB_17 k
      refine lv_aload_n hx hb dd_M_enter_9 rfl (lv_at hl 0 rfl) ?_
      refine va_get (D := D) (ci := 4) (v := .ref (ra 17)) (C := rn_M) (T := ft_M) (N := 19) hx hb hts tw_fs_M hown hK hP 0 rfl rfl 17 (by decide) (hts _ tw_fl_M_55) (fun _ h9 => h9) rfl dd_M_enter_10 ?_
      refine lv_iload_n hx hb dd_M_enter_13 rfl (lv_at hl 1 rfl) ?_
      refine bq_iald hx hb hK hP 14 13 rfl rfl (by omega) (by decide) dd_M_enter_14 ?_
      refine lv_sipush (v := nI 200) hx hb dd_M_enter_15 (by decide) ?_
      refine bq_lt (tgt := 23) hx hb (Nat.lt_of_le_of_lt (hB_17 k) (by decide)) (by decide) dd_M_enter_18 rfl (fun h18 => ?_) (fun h18 => ?_)
      · refine lv_aload_n hx hb dd_M_enter_23 rfl (lv_at hl 0 rfl) ?_
        refine va_get (D := D) (ci := 4) (v := .ref (ra 17)) (C := rn_M) (T := ft_M) (N := 19) hx hb hts tw_fs_M hown hK hP 0 rfl rfl 17 (by decide) (hts _ tw_fl_M_55) (fun _ h9 => h9) rfl dd_M_enter_24 ?_
        refine lv_iload_n hx hb dd_M_enter_27 rfl (lv_at hl 1 rfl) ?_
        refine lv_aload_n hx hb dd_M_enter_28 rfl (lv_at hl 0 rfl) ?_
        refine va_get (D := D) (ci := 4) (v := .ref (ra 17)) (C := rn_M) (T := ft_M) (N := 19) hx hb hts tw_fs_M hown hK hP 0 rfl rfl 17 (by decide) (hts _ tw_fl_M_55) (fun _ h9 => h9) rfl dd_M_enter_29 ?_
        refine lv_iload_n hx hb dd_M_enter_32 rfl (lv_at hl 1 rfl) ?_
        refine bq_iald hx hb hK hP 14 13 rfl rfl (by omega) (by decide) dd_M_enter_33 ?_
        refine lv_iconst (v := nI 1) hx hb dd_M_enter_34 (by decide) ?_
        refine lv_iadd hx hb dd_M_enter_35 ?_
        rw [nI_add]
        refine bq_iast hx hb hK hP (rf_D hJ ca N O Z B) hS 14 13 rfl rfl (by omega) (by decide) dd_M_enter_36 (fun H locs hP _ hS => ?_)
        have hP : va_P D vw_cl (rf_W ra ca (sp_u N 17 k ((N 17 k) + 1)) O Z B) H := hP
        refine lv_iconst (v := bd_b true) hx hb dd_M_enter_37 (by decide) ?_
        have eN : nm_enter N (bd_at (nI k) 4) = sp_u N 17 k ((N 17 k) + 1) := by simp only [bd_at_in hk9 (by decide)]; simp [nm_enter, h18, Nat.not_le.mpr h18]
        exact W.zret (ty := .boolean) hx hb hr (bd_b_nar _) (fun tt htt hWW => ⟨⟨_, (), rfl, (by simp only [bd_at_in hk9 (by decide)]; simp [am_enter, h18, Nat.not_le.mpr h18]), by rw [htt, eN]; exact hP, va_K.moved hWW.alike hK⟩, hS.F htt⟩) hS.2.2 dd_M_enter_38
      · refine lv_iconst (v := bd_b false) hx hb dd_M_enter_21 (by decide) ?_
        have eN : nm_enter N (bd_at (nI k) 4) = N := by simp only [bd_at_in hk9 (by decide)]; simp [nm_enter, h18, Nat.not_lt.mpr h18]
        exact W.zret (ty := .boolean) hx hb hr (bd_b_nar _) (fun tt htt hWW => ⟨⟨_, (), rfl, (by simp only [bd_at_in hk9 (by decide)]; simp [am_enter, h18, Nat.not_lt.mpr h18]), by rw [htt, eN]; exact hP, va_K.moved hWW.alike hK⟩, hS.F htt⟩) hS.2.2 dd_M_enter_22

set_option maxHeartbeats 4000000 in
set_option maxRecDepth 100000 in
theorem rc_leave (l : Launch) (D : va_G) (ra : Nat → Nat) (ca : Nat → ClassId) (hJ : rf_J ra) (N : sp_N) (O : sp_O) (Z : sp_Z) (B : sp_B) (hB : sp_Bd N O) (gi : Int32) : Met l my_M_leave (Cond.code my_M_leave cd_M_leave 2 (some .boolean) :: bg_tbl) ({ frames := 2, cells := 0, slots := 0, locals := 45 }) (va_Pc [.ref (ra 0), .int gi] (rf_U D ra ca N O Z B)) (va_Qi (fun r (_ : Unit) => r = bd_b (am_leave N (bd_at gi 4))) (fun _ uu => rf_U D ra ca (nm_leave N O (bd_at gi 4)) O Z B uu) (rf_A ra)) 0 0 (rf_A ra) := by
  refine Met.ofW (cc := cd_M_leave) (maxL := 2) (ret := (some .boolean)) (by decide) rfl ?_
  intro p e s m args below meth c s₁ BB hml hv
  obtain ⟨rfl, hP, hK⟩ := hv
  have hx := BB.exec
  have hb := BB.bytes
  have hr := BB.returns
  have hts : ∀ w ∈ bg_tbl, w.before ([.ref (ra 0), .int gi] : List Value).toArray s = true := fun w h => atoms_spec (ws := (Cond.code my_M_leave cd_M_leave 2 (some .boolean) :: bg_tbl)) BB.pre w (List.mem_cons_of_mem _ h)
  have hown : s.vm.findClass rn_M = some m.cls := findClass_of_methodNamed BB.named
  have hlocks := BB.notSynchronized
  obtain ⟨hB_0, hB_1, hB_2, hB_3, hB_4, hB_5, hB_6, hB_7, hB_8, hB_9, hB_10, hB_11, hB_12, hB_17⟩ := id hB
  have hS : va_S (rf_A ra) s.heap s.heap [] := va_S.rf
  have hl := lv_entry ([.ref (ra 0), .int gi]) (n := 2) (Nat.le_of_ble_eq_true rfl)
  rw [lg_entry_eq]
  generalize (lg_sl ([.ref (ra 0), .int gi]) ++ List.replicate (2 - (lg_sl ([.ref (ra 0), .int gi])).length) Slot.unset).toArray = ls at hl ⊢
  have hl : lv_has ls 2 [(0, .ref (ra 0)), (1, .int gi)] := hl
  refine lv_iload_n hx hb dd_M_leave_0 rfl (lv_at hl 1 rfl) ?_
  refine lv_if_lt (tgt := 18) hx hb dd_M_leave_1 rfl (fun h1 => ?_) (fun h1 => ?_)
  · refine lv_iconst (v := bd_b false) hx hb dd_M_leave_18 (by decide) ?_
    have eN : nm_leave N O (bd_at gi 4) = N := by simp only [bd_at_none (bd_in_1 h1)]; simp [nm_leave]
    exact W.zret (ty := .boolean) hx hb hr (bd_b_nar _) (fun tt htt hWW => ⟨⟨_, (), rfl, (by simp only [bd_at_none (bd_in_1 h1)]; simp [am_leave]), by rw [htt, eN]; exact hP, va_K.moved hWW.alike hK⟩, hS.F htt⟩) hS.2.2 dd_M_leave_19
  · refine lv_iload_n hx hb dd_M_leave_4 rfl (lv_at hl 1 rfl) ?_
    refine lv_iconst (v := nI 3) hx hb dd_M_leave_5 (by decide) ?_
    refine lv_icmp_gt (tgt := 18) hx hb dd_M_leave_6 rfl (fun h6 => ?_) (fun h6 => ?_)
    · refine lv_iconst (v := bd_b false) hx hb dd_M_leave_18 (by decide) ?_
      have eN : nm_leave N O (bd_at gi 4) = N := by simp only [bd_at_none (bd_in_5 (Int32.not_le.mpr h6))]; simp [nm_leave]
      exact W.zret (ty := .boolean) hx hb hr (bd_b_nar _) (fun tt htt hWW => ⟨⟨_, (), rfl, (by simp only [bd_at_none (bd_in_5 (Int32.not_le.mpr h6))]; simp [am_leave]), by rw [htt, eN]; exact hP, va_K.moved hWW.alike hK⟩, hS.F htt⟩) hS.2.2 dd_M_leave_19
    · obtain ⟨k, hk9, rfl⟩ := bd_in_of (bd_in_4 h1 (Int32.not_lt.mp h6)) (by decide)
      have h17k := hB_17 k
      refine lv_aload_n hx hb dd_M_leave_9 rfl (lv_at hl 0 rfl) ?_
      refine va_get (D := D) (ci := 4) (v := .ref (ra 17)) (C := rn_M) (T := ft_M) (N := 19) hx hb hts tw_fs_M hown hK hP 0 rfl rfl 17 (by decide) (hts _ tw_fl_M_55) (fun _ h9 => h9) rfl dd_M_leave_10 ?_
      refine lv_iload_n hx hb dd_M_leave_13 rfl (lv_at hl 1 rfl) ?_
      refine bq_iald hx hb hK hP 14 13 rfl rfl (by omega) (by decide) dd_M_leave_14 ?_
      refine bq_nne (tgt := 20) hx hb (Nat.lt_of_le_of_lt (hB_17 k) (by decide)) dd_M_leave_15 rfl (fun h15 => ?_) (fun h15 => ?_)
      · refine lv_aload_n hx hb dd_M_leave_20 rfl (lv_at hl 0 rfl) ?_
        refine va_get (D := D) (ci := 4) (v := .ref (ra 17)) (C := rn_M) (T := ft_M) (N := 19) hx hb hts tw_fs_M hown hK hP 0 rfl rfl 17 (by decide) (hts _ tw_fl_M_55) (fun _ h9 => h9) rfl dd_M_leave_21 ?_
        refine lv_iload_n hx hb dd_M_leave_24 rfl (lv_at hl 1 rfl) ?_
        refine lv_aload_n hx hb dd_M_leave_25 rfl (lv_at hl 0 rfl) ?_
        refine va_get (D := D) (ci := 4) (v := .ref (ra 17)) (C := rn_M) (T := ft_M) (N := 19) hx hb hts tw_fs_M hown hK hP 0 rfl rfl 17 (by decide) (hts _ tw_fl_M_55) (fun _ h9 => h9) rfl dd_M_leave_26 ?_
        refine lv_iload_n hx hb dd_M_leave_29 rfl (lv_at hl 1 rfl) ?_
        refine bq_iald hx hb hK hP 14 13 rfl rfl (by omega) (by decide) dd_M_leave_30 ?_
        refine lv_iconst (v := nI 1) hx hb dd_M_leave_31 (by decide) ?_
        refine lv_isub hx hb dd_M_leave_32 ?_
        rw [pk_sub (by omega)]
        refine bq_iast hx hb hK hP (rf_D hJ ca N O Z B) hS 14 13 rfl rfl (by omega) (by decide) dd_M_leave_33 (fun H locs hP _ hS => ?_)
        have hP : va_P D vw_cl (rf_W ra ca (sp_u N 17 k ((N 17 k) - 1)) O Z B) H := hP
        refine lv_aload_n hx hb dd_M_leave_34 rfl (lv_at hl 0 rfl) ?_
        refine lv_iload_n hx hb dd_M_leave_35 rfl (lv_at hl 1 rfl) ?_
        refine rf_callwv (As := [.int (nI k)]) (rest := []) ⟨hx, hb, hml, hown, hts⟩ (rc_release l D ra ca hJ (sp_u N 17 k ((N 17 k) - 1)) O Z B (sp_Bd_17 hB k ((N 17 k) - 1) (by first | decide | omega)) k hk9) (bg_cwV 1 hts tw_ml_M_99 tw_im_M_release tw_se_M_release tw_in_M tw_co_M_release rfl rfl th_M_release ⟨Nat.le_of_ble_eq_true rfl, Nat.le_of_ble_eq_true rfl⟩) hK hP hS rfl hl.1 rfl (by decide) dd_M_leave_36 ⟨Nat.zero_le _, Nat.zero_le _⟩ (fun H locs hP hS => ?_)
        refine lv_iconst (v := bd_b true) hx hb dd_M_leave_39 (by decide) ?_
        have eN : nm_leave N O (bd_at (nI k) 4) = sp_S (sp_u N 17 k ((N 17 k) - 1)) O k := by simp only [bd_at_in hk9 (by decide)]; simp [nm_leave, h15]
        exact W.zret (ty := .boolean) hx hb hr (bd_b_nar _) (fun tt htt hWW => ⟨⟨_, (), rfl, (by simp only [bd_at_in hk9 (by decide)]; simp [am_leave, h15]), by rw [htt, eN]; exact hP, va_K.moved hWW.alike hK⟩, hS.F htt⟩) hS.2.2 dd_M_leave_40
      · refine lv_iconst (v := bd_b false) hx hb dd_M_leave_18 (by decide) ?_
        have eN : nm_leave N O (bd_at (nI k) 4) = N := by simp only [bd_at_in hk9 (by decide)]; simp [nm_leave, h15]
        exact W.zret (ty := .boolean) hx hb hr (bd_b_nar _) (fun tt htt hWW => ⟨⟨_, (), rfl, (by simp only [bd_at_in hk9 (by decide)]; simp [am_leave, h15]), by rw [htt, eN]; exact hP, va_K.moved hWW.alike hK⟩, hS.F htt⟩) hS.2.2 dd_M_leave_19

set_option maxHeartbeats 4000000 in
set_option maxRecDepth 100000 in
theorem rc_cancel (l : Launch) (D : va_G) (ra : Nat → Nat) (ca : Nat → ClassId) (hJ : rf_J ra) (N : sp_N) (O : sp_O) (Z : sp_Z) (B : sp_B) (hB : sp_Bd N O) (ti : Int32) : Met l my_M_cancel (Cond.code my_M_cancel cd_M_cancel 2 (some .boolean) :: bg_tbl) ({ frames := 1, cells := 0, slots := 0, locals := 21 }) (va_Pc [.ref (ra 0), .int ti] (rf_U D ra ca N O Z B)) (va_Qi (fun r (_ : Unit) => r = bd_b (am_cancel N B (bd_at ti (N 6 0)))) (fun _ uu => rf_U D ra ca N O Z (bm_cancel N B (bd_at ti (N 6 0))) uu) (rf_A ra)) 0 0 (rf_A ra) := by
  refine Met.ofW (cc := cd_M_cancel) (maxL := 2) (ret := (some .boolean)) (by decide) rfl ?_
  intro p e s m args below meth c s₁ BB hml hv
  obtain ⟨rfl, hP, hK⟩ := hv
  have hx := BB.exec
  have hb := BB.bytes
  have hr := BB.returns
  have hts : ∀ w ∈ bg_tbl, w.before ([.ref (ra 0), .int ti] : List Value).toArray s = true := fun w h => atoms_spec (ws := (Cond.code my_M_cancel cd_M_cancel 2 (some .boolean) :: bg_tbl)) BB.pre w (List.mem_cons_of_mem _ h)
  have hown : s.vm.findClass rn_M = some m.cls := findClass_of_methodNamed BB.named
  have hlocks := BB.notSynchronized
  obtain ⟨hB_0, hB_1, hB_2, hB_3, hB_4, hB_5, hB_6, hB_7, hB_8, hB_9, hB_10, hB_11, hB_12, hB_17⟩ := id hB
  have hS : va_S (rf_A ra) s.heap s.heap [] := va_S.rf
  have hl := lv_entry ([.ref (ra 0), .int ti]) (n := 2) (Nat.le_of_ble_eq_true rfl)
  rw [lg_entry_eq]
  generalize (lg_sl ([.ref (ra 0), .int ti]) ++ List.replicate (2 - (lg_sl ([.ref (ra 0), .int ti])).length) Slot.unset).toArray = ls at hl ⊢
  have hl : lv_has ls 2 [(0, .ref (ra 0)), (1, .int ti)] := hl
  refine lv_aload_n hx hb dd_M_cancel_0 rfl (lv_at hl 0 rfl) ?_
  refine lv_iload_n hx hb dd_M_cancel_1 rfl (lv_at hl 1 rfl) ?_
  refine rf_calli (As := [.int ti]) (rest := []) (v := bd_b (bd_in ti (N 6 0))) ⟨hx, hb, hml, hown, hts⟩ (rc_isBlock l D ra ca N O Z B hB ti) (bg_cwV 1 hts tw_ml_M_115 tw_im_M_isBlock tw_se_M_isBlock tw_in_M tw_co_M_isBlock rfl rfl th_M_isBlock ⟨Nat.le_of_ble_eq_true rfl, Nat.le_of_ble_eq_true rfl⟩) hK hP rfl hl.1 rfl (by decide) dd_M_cancel_2 ⟨Nat.zero_le _, Nat.zero_le _⟩ ?_
  refine bq_zeq (tgt := 27) hx hb dd_M_cancel_5 rfl (fun h5 => ?_) (fun h5 => ?_)
  · refine lv_iconst (v := bd_b false) hx hb dd_M_cancel_27 (by decide) ?_
    have eB : bm_cancel N B (bd_at ti (N 6 0)) = B := by simp only [bd_at_none h5]; simp [bm_cancel]
    exact W.zret (ty := .boolean) hx hb hr (bd_b_nar _) (fun tt htt hWW => ⟨⟨_, (), rfl, (by simp only [bd_at_none h5]; simp [am_cancel]), by rw [htt, eB]; exact hP, va_K.moved hWW.alike hK⟩, hS.F htt⟩) hS.2.2 dd_M_cancel_28
  · obtain ⟨a, ha9, rfl⟩ := bd_in_of h5 (by omega)
    refine lv_aload_n hx hb dd_M_cancel_8 rfl (lv_at hl 0 rfl) ?_
    refine va_get (D := D) (ci := 4) (v := .ref (ra 8)) (C := rn_M) (T := ft_M) (N := 19) hx hb hts tw_fs_M hown hK hP 0 rfl rfl 8 (by decide) (hts _ tw_fl_M_29) (fun _ h9 => h9) rfl dd_M_cancel_9 ?_
    refine lv_iload_n hx hb dd_M_cancel_12 rfl (lv_at hl 1 rfl) ?_
    refine bq_iald hx hb hK hP 6 5 rfl rfl (by omega) (by decide) dd_M_cancel_13 ?_
    refine lv_iconst (v := nI 2) hx hb dd_M_cancel_14 (by decide) ?_
    refine bq_gt (tgt := 27) hx hb (Nat.lt_trans (hB_8 a) (by decide)) (by decide) dd_M_cancel_15 rfl (fun h15 => ?_) (fun h15 => ?_)
    · refine lv_iconst (v := bd_b false) hx hb dd_M_cancel_27 (by decide) ?_
      have eB : bm_cancel N B (bd_at (nI a) (N 6 0)) = B := by simp only [bd_at_in ha9 (by omega)]; simp [bm_cancel, h15, Nat.not_le.mpr h15]
      exact W.zret (ty := .boolean) hx hb hr (bd_b_nar _) (fun tt htt hWW => ⟨⟨_, (), rfl, (by simp only [bd_at_in ha9 (by omega)]; simp [am_cancel, h15, Nat.not_le.mpr h15]), by rw [htt, eB]; exact hP, va_K.moved hWW.alike hK⟩, hS.F htt⟩) hS.2.2 dd_M_cancel_28
    · refine lv_aload_n hx hb dd_M_cancel_18 rfl (lv_at hl 0 rfl) ?_
      refine va_get (D := D) (ci := 4) (v := .ref (ra 15)) (C := rn_M) (T := ft_M) (N := 19) hx hb hts tw_fs_M hown hK hP 0 rfl rfl 15 (by decide) (hts _ tw_fl_M_52) (fun _ h9 => h9) rfl dd_M_cancel_19 ?_
      refine lv_iload_n hx hb dd_M_cancel_22 rfl (lv_at hl 1 rfl) ?_
      refine bq_zald hx hb hK hP 13 12 rfl rfl (by omega) (by decide) dd_M_cancel_23 ?_
      refine bq_zeq (tgt := 29) hx hb dd_M_cancel_24 rfl (fun h24 => ?_) (fun h24 => ?_)
      · refine lv_aload_n hx hb dd_M_cancel_29 rfl (lv_at hl 0 rfl) ?_
        refine va_get (D := D) (ci := 4) (v := .ref (ra 15)) (C := rn_M) (T := ft_M) (N := 19) hx hb hts tw_fs_M hown hK hP 0 rfl rfl 15 (by decide) (hts _ tw_fl_M_52) (fun _ h9 => h9) rfl dd_M_cancel_30 ?_
        refine lv_iload_n hx hb dd_M_cancel_33 rfl (lv_at hl 1 rfl) ?_
        refine lv_iconst (v := bd_b true) hx hb dd_M_cancel_34 (by decide) ?_
        refine bq_zast hx hb hK hP (rf_D hJ ca N O Z B) hS 13 12 rfl rfl (by omega) (by decide) dd_M_cancel_35 (fun H locs hP _ hS => ?_)
        have hP : va_P D vw_cl (rf_W ra ca N O Z (sp_u B 15 a true)) H := hP
        refine lv_iconst (v := bd_b true) hx hb dd_M_cancel_36 (by decide) ?_
        have eB : bm_cancel N B (bd_at (nI a) (N 6 0)) = sp_u B 15 a true := by simp only [bd_at_in ha9 (by omega)]; simp [bm_cancel, h15, Nat.not_lt.mpr h15, h24]
        exact W.zret (ty := .boolean) hx hb hr (bd_b_nar _) (fun tt htt hWW => ⟨⟨_, (), rfl, (by simp only [bd_at_in ha9 (by omega)]; simp [am_cancel, h15, Nat.not_lt.mpr h15, h24]), by rw [htt, eB]; exact hP, va_K.moved hWW.alike hK⟩, hS.F htt⟩) hS.2.2 dd_M_cancel_37
      · refine lv_iconst (v := bd_b false) hx hb dd_M_cancel_27 (by decide) ?_
        have eB : bm_cancel N B (bd_at (nI a) (N 6 0)) = B := by simp only [bd_at_in ha9 (by omega)]; simp [bm_cancel, h15, Nat.not_lt.mpr h15, h24]
        exact W.zret (ty := .boolean) hx hb hr (bd_b_nar _) (fun tt htt hWW => ⟨⟨_, (), rfl, (by simp only [bd_at_in ha9 (by omega)]; simp [am_cancel, h15, Nat.not_lt.mpr h15, h24]), by rw [htt, eB]; exact hP, va_K.moved hWW.alike hK⟩, hS.F htt⟩) hS.2.2 dd_M_cancel_28

set_option maxHeartbeats 4000000 in
set_option maxRecDepth 100000 in
theorem rc_hold (l : Launch) (D : va_G) (ra : Nat → Nat) (ca : Nat → ClassId) (hJ : rf_J ra) (N : sp_N) (O : sp_O) (Z : sp_Z) (B : sp_B) (hB : sp_Bd N O) (q : Int32) (on : Bool) : Met l my_M_hold (Cond.code my_M_hold cd_M_hold 3 (some .int) :: bg_tbl) ({ frames := 1, cells := 0, slots := 0, locals := 21 }) (va_Pc [.ref (ra 0), .int q, .int (bd_b on)] (rf_U D ra ca N O Z B)) (va_Qi (fun r (_ : Unit) => r = am_hold N (bd_at q (N 1 0)) on) (fun _ uu => rf_U D ra ca (nm_hold N (bd_at q (N 1 0)) on) O Z B uu) (rf_A ra)) 0 0 (rf_A ra) := by
  refine Met.ofW (cc := cd_M_hold) (maxL := 3) (ret := (some .int)) (by decide) rfl ?_
  intro p e s m args below meth c s₁ BB hml hv
  obtain ⟨rfl, hP, hK⟩ := hv
  have hx := BB.exec
  have hb := BB.bytes
  have hr := BB.returns
  have hts : ∀ w ∈ bg_tbl, w.before ([.ref (ra 0), .int q, .int (bd_b on)] : List Value).toArray s = true := fun w h => atoms_spec (ws := (Cond.code my_M_hold cd_M_hold 3 (some .int) :: bg_tbl)) BB.pre w (List.mem_cons_of_mem _ h)
  have hown : s.vm.findClass rn_M = some m.cls := findClass_of_methodNamed BB.named
  have hlocks := BB.notSynchronized
  obtain ⟨hB_0, hB_1, hB_2, hB_3, hB_4, hB_5, hB_6, hB_7, hB_8, hB_9, hB_10, hB_11, hB_12, hB_17⟩ := id hB
  have hS : va_S (rf_A ra) s.heap s.heap [] := va_S.rf
  have hl := lv_entry ([.ref (ra 0), .int q, .int (bd_b on)]) (n := 3) (Nat.le_of_ble_eq_true rfl)
  rw [lg_entry_eq]
  generalize (lg_sl ([.ref (ra 0), .int q, .int (bd_b on)]) ++ List.replicate (3 - (lg_sl ([.ref (ra 0), .int q, .int (bd_b on)])).length) Slot.unset).toArray = ls at hl ⊢
  have hl : lv_has ls 3 [(0, .ref (ra 0)), (1, .int q), (2, .int (bd_b on))] := hl
  refine lv_aload_n hx hb dd_M_hold_0 rfl (lv_at hl 0 rfl) ?_
  refine lv_iload_n hx hb dd_M_hold_1 rfl (lv_at hl 1 rfl) ?_
  refine rf_calli (As := [.int q]) (rest := []) (v := bd_b (bd_in q (N 1 0))) ⟨hx, hb, hml, hown, hts⟩ (rc_isQueue l D ra ca N O Z B hB q) (bg_cwV 1 hts tw_ml_M_102 tw_im_M_isQueue tw_se_M_isQueue tw_in_M tw_co_M_isQueue rfl rfl th_M_isQueue ⟨Nat.le_of_ble_eq_true rfl, Nat.le_of_ble_eq_true rfl⟩) hK hP rfl hl.1 rfl (by decide) dd_M_hold_2 ⟨Nat.zero_le _, Nat.zero_le _⟩ ?_
  refine bq_zeq (tgt := 13) hx hb dd_M_hold_5 rfl (fun h5 => ?_) (fun h5 => ?_)
  · refine lv_iconst (v := -1) hx hb dd_M_hold_13 (by decide) ?_
    have eN : nm_hold N (bd_at q (N 1 0)) on = N := by simp only [bd_at_none h5]; simp [nm_hold]
    exact W.iret hx hb hr (fun tt htt hWW => ⟨⟨_, (), rfl, (by simp only [bd_at_none h5]; simp [am_hold]), by rw [htt, eN]; exact hP, va_K.moved hWW.alike hK⟩, hS.F htt⟩) hS.2.2 dd_M_hold_14
  · obtain ⟨a, ha9, rfl⟩ := bd_in_of h5 (by omega)
    refine lv_iload_n hx hb dd_M_hold_8 rfl (lv_at hl 1 rfl) ?_
    refine lv_iconst (v := nI 3) hx hb dd_M_hold_9 (by decide) ?_
    refine bq_ge (tgt := 15) hx hb (by omega) (by decide) dd_M_hold_10 rfl (fun h10 => ?_) (fun h10 => ?_)
    · refine lv_iload_n hx hb dd_M_hold_15 rfl (lv_at hl 2 rfl) ?_
      refine bq_zeq (tgt := 33) hx hb dd_M_hold_16 rfl (fun h16 => ?_) (fun h16 => ?_)
      · refine lv_iload_n hx hb dd_M_hold_33 rfl (lv_at hl 2 rfl) ?_
        have h4a := hB_4 a
        refine bq_zne (tgt := 49) hx hb dd_M_hold_34 rfl (fun h34 => ?_) (fun h34 => ?_)
        · rw [h16] at h34; cases h34
        · refine lv_aload_n hx hb dd_M_hold_37 rfl (lv_at hl 0 rfl) ?_
          refine va_get (D := D) (ci := 4) (v := .ref (ra 4)) (C := rn_M) (T := ft_M) (N := 19) hx hb hts tw_fs_M hown hK hP 0 rfl rfl 4 (by decide) (hts _ tw_fl_M_20) (fun _ h9 => h9) rfl dd_M_hold_38 ?_
          refine lv_iload_n hx hb dd_M_hold_41 rfl (lv_at hl 1 rfl) ?_
          refine bq_iald hx hb hK hP 3 2 rfl rfl (by omega) (by decide) dd_M_hold_42 ?_
          refine bq_nne (tgt := 49) hx hb (Nat.lt_of_le_of_lt (hB_4 a) (by decide)) dd_M_hold_43 rfl (fun h43 => ?_) (fun h43 => ?_)
          · refine lv_aload_n hx hb dd_M_hold_49 rfl (lv_at hl 0 rfl) ?_
            refine va_get (D := D) (ci := 4) (v := .ref (ra 4)) (C := rn_M) (T := ft_M) (N := 19) hx hb hts tw_fs_M hown hK hP 0 rfl rfl 4 (by decide) (hts _ tw_fl_M_20) (fun _ h9 => h9) rfl dd_M_hold_50 ?_
            refine lv_iload_n hx hb dd_M_hold_53 rfl (lv_at hl 1 rfl) ?_
            refine lv_iload_n hx hb dd_M_hold_54 rfl (lv_at hl 2 rfl) ?_
            refine bq_zeq (tgt := 69) hx hb dd_M_hold_55 rfl (fun h55 => ?_) (fun h55 => ?_)
            · refine lv_aload_n hx hb dd_M_hold_69 rfl (lv_at hl 0 rfl) ?_
              refine va_get (D := D) (ci := 4) (v := .ref (ra 4)) (C := rn_M) (T := ft_M) (N := 19) hx hb hts tw_fs_M hown hK hP 0 rfl rfl 4 (by decide) (hts _ tw_fl_M_20) (fun _ h9 => h9) rfl dd_M_hold_70 ?_
              refine lv_iload_n hx hb dd_M_hold_73 rfl (lv_at hl 1 rfl) ?_
              refine bq_iald hx hb hK hP 3 2 rfl rfl (by omega) (by decide) dd_M_hold_74 ?_
              refine lv_iconst (v := nI 1) hx hb dd_M_hold_75 (by decide) ?_
              refine lv_isub hx hb dd_M_hold_76 ?_
              rw [pk_sub (by omega)]
              refine bq_iast hx hb hK hP (rf_D hJ ca N O Z B) hS 3 2 rfl rfl (by omega) (by decide) dd_M_hold_77 (fun H locs hP _ hS => ?_)
              have hP : va_P D vw_cl (rf_W ra ca (sp_u N 4 a ((N 4 a) - 1)) O Z B) H := hP
              refine lv_aload_n hx hb dd_M_hold_78 rfl (lv_at hl 0 rfl) ?_
              refine va_get (D := D) (ci := 4) (v := .ref (ra 4)) (C := rn_M) (T := ft_M) (N := 19) hx hb hts tw_fs_M hown hK hP 0 rfl rfl 4 (by decide) (hts _ tw_fl_M_20) (fun _ h9 => h9) rfl dd_M_hold_79 ?_
              refine lv_iload_n hx hb dd_M_hold_82 rfl (lv_at hl 1 rfl) ?_
              refine bq_iald hx hb hK hP 3 2 rfl rfl (by omega) (by decide) dd_M_hold_83 ?_
              rw [sp_u_self]
              have eN : nm_hold N (bd_at (nI a) (N 1 0)) on = sp_u N 4 a ((N 4 a) - 1) := by simp only [bd_at_in ha9 (by omega)]; simp [nm_hold, h10, Nat.not_lt.mpr h10, h16, h34, h43, h55]
              exact W.iret hx hb hr (fun tt htt hWW => ⟨⟨_, (), rfl, (by simp only [bd_at_in ha9 (by omega)]; simp [am_hold, h10, Nat.not_lt.mpr h10, h16, h34, h43, h55]), by rw [htt, eN]; exact hP, va_K.moved hWW.alike hK⟩, hS.F htt⟩) hS.2.2 dd_M_hold_84
            · rw [h16] at h55; cases h55
          · refine lv_bipush (v := -8) hx hb dd_M_hold_46 (by decide) ?_
            have eN : nm_hold N (bd_at (nI a) (N 1 0)) on = N := by simp only [bd_at_in ha9 (by omega)]; simp [nm_hold, h10, Nat.not_lt.mpr h10, h16, h34, h43]
            exact W.iret hx hb hr (fun tt htt hWW => ⟨⟨_, (), rfl, (by simp only [bd_at_in ha9 (by omega)]; simp [am_hold, h10, Nat.not_lt.mpr h10, h16, h34, h43]), by rw [htt, eN]; exact hP, va_K.moved hWW.alike hK⟩, hS.F htt⟩) hS.2.2 dd_M_hold_48
      · refine lv_aload_n hx hb dd_M_hold_19 rfl (lv_at hl 0 rfl) ?_
        refine va_get (D := D) (ci := 4) (v := .ref (ra 4)) (C := rn_M) (T := ft_M) (N := 19) hx hb hts tw_fs_M hown hK hP 0 rfl rfl 4 (by decide) (hts _ tw_fl_M_20) (fun _ h9 => h9) rfl dd_M_hold_20 ?_
        refine lv_iload_n hx hb dd_M_hold_23 rfl (lv_at hl 1 rfl) ?_
        refine bq_iald hx hb hK hP 3 2 rfl rfl (by omega) (by decide) dd_M_hold_24 ?_
        refine lv_bipush (v := nI 100) hx hb dd_M_hold_25 (by decide) ?_
        refine bq_ne (tgt := 33) hx hb (Nat.lt_of_le_of_lt (hB_4 a) (by decide)) (by decide) dd_M_hold_27 rfl (fun h27 => ?_) (fun h27 => ?_)
        · refine lv_iload_n hx hb dd_M_hold_33 rfl (lv_at hl 2 rfl) ?_
          have h4a := hB_4 a
          refine bq_zne (tgt := 49) hx hb dd_M_hold_34 rfl (fun h34 => ?_) (fun h34 => ?_)
          · refine lv_aload_n hx hb dd_M_hold_49 rfl (lv_at hl 0 rfl) ?_
            refine va_get (D := D) (ci := 4) (v := .ref (ra 4)) (C := rn_M) (T := ft_M) (N := 19) hx hb hts tw_fs_M hown hK hP 0 rfl rfl 4 (by decide) (hts _ tw_fl_M_20) (fun _ h9 => h9) rfl dd_M_hold_50 ?_
            refine lv_iload_n hx hb dd_M_hold_53 rfl (lv_at hl 1 rfl) ?_
            refine lv_iload_n hx hb dd_M_hold_54 rfl (lv_at hl 2 rfl) ?_
            refine bq_zeq (tgt := 69) hx hb dd_M_hold_55 rfl (fun h55 => ?_) (fun h55 => ?_)
            · rw [h16] at h55; cases h55
            · refine lv_aload_n hx hb dd_M_hold_58 rfl (lv_at hl 0 rfl) ?_
              refine va_get (D := D) (ci := 4) (v := .ref (ra 4)) (C := rn_M) (T := ft_M) (N := 19) hx hb hts tw_fs_M hown hK hP 0 rfl rfl 4 (by decide) (hts _ tw_fl_M_20) (fun _ h9 => h9) rfl dd_M_hold_59 ?_
              refine lv_iload_n hx hb dd_M_hold_62 rfl (lv_at hl 1 rfl) ?_
              refine bq_iald hx hb hK hP 3 2 rfl rfl (by omega) (by decide) dd_M_hold_63 ?_
              refine lv_iconst (v := nI 1) hx hb dd_M_hold_64 (by decide) ?_
              refine lv_iadd hx hb dd_M_hold_65 ?_
              rw [nI_add]
              refine lv_goto (tgt := 77) hx hb dd_M_hold_66 rfl ?_
              refine bq_iast hx hb hK hP (rf_D hJ ca N O Z B) hS 3 2 rfl rfl (by omega) (by decide) dd_M_hold_77 (fun H locs hP _ hS => ?_)
              have hP : va_P D vw_cl (rf_W ra ca (sp_u N 4 a ((N 4 a) + 1)) O Z B) H := hP
              refine lv_aload_n hx hb dd_M_hold_78 rfl (lv_at hl 0 rfl) ?_
              refine va_get (D := D) (ci := 4) (v := .ref (ra 4)) (C := rn_M) (T := ft_M) (N := 19) hx hb hts tw_fs_M hown hK hP 0 rfl rfl 4 (by decide) (hts _ tw_fl_M_20) (fun _ h9 => h9) rfl dd_M_hold_79 ?_
              refine lv_iload_n hx hb dd_M_hold_82 rfl (lv_at hl 1 rfl) ?_
              refine bq_iald hx hb hK hP 3 2 rfl rfl (by omega) (by decide) dd_M_hold_83 ?_
              rw [sp_u_self]
              have eN : nm_hold N (bd_at (nI a) (N 1 0)) on = sp_u N 4 a ((N 4 a) + 1) := by simp only [bd_at_in ha9 (by omega)]; simp [nm_hold, h10, Nat.not_lt.mpr h10, h16, h27, h34, h55]
              exact W.iret hx hb hr (fun tt htt hWW => ⟨⟨_, (), rfl, (by simp only [bd_at_in ha9 (by omega)]; simp [am_hold, h10, Nat.not_lt.mpr h10, h16, h27, h34, h55]), by rw [htt, eN]; exact hP, va_K.moved hWW.alike hK⟩, hS.F htt⟩) hS.2.2 dd_M_hold_84
          · rw [h16] at h34; cases h34
        · refine lv_bipush (v := -4) hx hb dd_M_hold_30 (by decide) ?_
          have eN : nm_hold N (bd_at (nI a) (N 1 0)) on = N := by simp only [bd_at_in ha9 (by omega)]; simp [nm_hold, h10, Nat.not_lt.mpr h10, h16, h27]
          exact W.iret hx hb hr (fun tt htt hWW => ⟨⟨_, (), rfl, (by simp only [bd_at_in ha9 (by omega)]; simp [am_hold, h10, Nat.not_lt.mpr h10, h16, h27]), by rw [htt, eN]; exact hP, va_K.moved hWW.alike hK⟩, hS.F htt⟩) hS.2.2 dd_M_hold_32
    · refine lv_iconst (v := -1) hx hb dd_M_hold_13 (by decide) ?_
      have eN : nm_hold N (bd_at (nI a) (N 1 0)) on = N := by simp only [bd_at_in ha9 (by omega)]; simp [nm_hold, h10, Nat.not_le.mpr h10]
      exact W.iret hx hb hr (fun tt htt hWW => ⟨⟨_, (), rfl, (by simp only [bd_at_in ha9 (by omega)]; simp [am_hold, h10, Nat.not_le.mpr h10]), by rw [htt, eN]; exact hP, va_K.moved hWW.alike hK⟩, hS.F htt⟩) hS.2.2 dd_M_hold_14

set_option maxHeartbeats 4000000 in
set_option maxRecDepth 100000 in
theorem rc_finish (l : Launch) (D : va_G) (ra : Nat → Nat) (ca : Nat → ClassId) (hJ : rf_J ra) (N : sp_N) (O : sp_O) (Z : sp_Z) (B : sp_B) (hB : sp_Bd N O) (ti : Int32) : Met l my_M_finish (Cond.code my_M_finish cd_M_finish 2 (some .boolean) :: bg_tbl) ({ frames := 3, cells := 0, slots := 0, locals := 67 }) (va_Pc [.ref (ra 0), .int ti] (rf_U D ra ca N O Z B)) (va_Qi (fun r (_ : Unit) => r = bd_b (am_finish N (bd_at ti (N 6 0)))) (fun _ uu => rf_U D ra ca (nm_finish N O (bd_at ti (N 6 0))) O Z B uu) (rf_A ra)) 0 0 (rf_A ra) := by
  refine Met.ofW (cc := cd_M_finish) (maxL := 2) (ret := (some .boolean)) (by decide) rfl ?_
  intro p e s m args below meth c s₁ BB hml hv
  obtain ⟨rfl, hP, hK⟩ := hv
  have hx := BB.exec
  have hb := BB.bytes
  have hr := BB.returns
  have hts : ∀ w ∈ bg_tbl, w.before ([.ref (ra 0), .int ti] : List Value).toArray s = true := fun w h => atoms_spec (ws := (Cond.code my_M_finish cd_M_finish 2 (some .boolean) :: bg_tbl)) BB.pre w (List.mem_cons_of_mem _ h)
  have hown : s.vm.findClass rn_M = some m.cls := findClass_of_methodNamed BB.named
  have hlocks := BB.notSynchronized
  obtain ⟨hB_0, hB_1, hB_2, hB_3, hB_4, hB_5, hB_6, hB_7, hB_8, hB_9, hB_10, hB_11, hB_12, hB_17⟩ := id hB
  have hS : va_S (rf_A ra) s.heap s.heap [] := va_S.rf
  have hl := lv_entry ([.ref (ra 0), .int ti]) (n := 2) (Nat.le_of_ble_eq_true rfl)
  rw [lg_entry_eq]
  generalize (lg_sl ([.ref (ra 0), .int ti]) ++ List.replicate (2 - (lg_sl ([.ref (ra 0), .int ti])).length) Slot.unset).toArray = ls at hl ⊢
  have hl : lv_has ls 2 [(0, .ref (ra 0)), (1, .int ti)] := hl
  refine lv_aload_n hx hb dd_M_finish_0 rfl (lv_at hl 0 rfl) ?_
  refine lv_iload_n hx hb dd_M_finish_1 rfl (lv_at hl 1 rfl) ?_
  refine rf_calli (As := [.int ti]) (rest := []) (v := bd_b (bd_in ti (N 6 0))) ⟨hx, hb, hml, hown, hts⟩ (rc_isBlock l D ra ca N O Z B hB ti) (bg_cwV 1 hts tw_ml_M_115 tw_im_M_isBlock tw_se_M_isBlock tw_in_M tw_co_M_isBlock rfl rfl th_M_isBlock ⟨Nat.le_of_ble_eq_true rfl, Nat.le_of_ble_eq_true rfl⟩) hK hP rfl hl.1 rfl (by decide) dd_M_finish_2 ⟨Nat.zero_le _, Nat.zero_le _⟩ ?_
  refine bq_zeq (tgt := 18) hx hb dd_M_finish_5 rfl (fun h5 => ?_) (fun h5 => ?_)
  · refine lv_iconst (v := bd_b false) hx hb dd_M_finish_18 (by decide) ?_
    have eN : nm_finish N O (bd_at ti (N 6 0)) = N := by simp only [bd_at_none h5]; simp [nm_finish]
    exact W.zret (ty := .boolean) hx hb hr (bd_b_nar _) (fun tt htt hWW => ⟨⟨_, (), rfl, (by simp only [bd_at_none h5]; simp [am_finish]), by rw [htt, eN]; exact hP, va_K.moved hWW.alike hK⟩, hS.F htt⟩) hS.2.2 dd_M_finish_19
  · obtain ⟨a, ha9, rfl⟩ := bd_in_of h5 (by omega)
    refine lv_aload_n hx hb dd_M_finish_8 rfl (lv_at hl 0 rfl) ?_
    refine va_get (D := D) (ci := 4) (v := .ref (ra 8)) (C := rn_M) (T := ft_M) (N := 19) hx hb hts tw_fs_M hown hK hP 0 rfl rfl 8 (by decide) (hts _ tw_fl_M_29) (fun _ h9 => h9) rfl dd_M_finish_9 ?_
    refine lv_iload_n hx hb dd_M_finish_12 rfl (lv_at hl 1 rfl) ?_
    refine bq_iald hx hb hK hP 6 5 rfl rfl (by omega) (by decide) dd_M_finish_13 ?_
    refine lv_iconst (v := nI 3) hx hb dd_M_finish_14 (by decide) ?_
    refine bq_eq (tgt := 20) hx hb (Nat.lt_trans (hB_8 a) (by decide)) (by decide) dd_M_finish_15 rfl (fun h15 => ?_) (fun h15 => ?_)
    · refine lv_aload_n hx hb dd_M_finish_20 rfl (lv_at hl 0 rfl) ?_
      refine lv_iload_n hx hb dd_M_finish_21 rfl (lv_at hl 1 rfl) ?_
      refine lv_iconst (v := nI 5) hx hb dd_M_finish_22 (by decide) ?_
      refine rf_callwv (As := [.int (nI a), .int (nI 5)]) (rest := []) ⟨hx, hb, hml, hown, hts⟩ (rc_end l D ra ca hJ N O Z B hB a 5 (by omega) (by decide)) (bg_cwV 2 hts tw_ml_M_131 tw_im_M_end tw_se_M_end tw_in_M tw_co_M_end rfl rfl th_M_end ⟨Nat.le_of_ble_eq_true rfl, Nat.le_of_ble_eq_true rfl⟩) hK hP hS rfl hl.1 rfl (by decide) dd_M_finish_23 ⟨Nat.zero_le _, Nat.zero_le _⟩ (fun H locs hP hS => ?_)
      refine lv_iconst (v := bd_b true) hx hb dd_M_finish_26 (by decide) ?_
      have eN : nm_finish N O (bd_at (nI a) (N 6 0)) = sp_E N O a 5 := by simp only [bd_at_in ha9 (by omega)]; simp [nm_finish, h15]
      exact W.zret (ty := .boolean) hx hb hr (bd_b_nar _) (fun tt htt hWW => ⟨⟨_, (), rfl, (by simp only [bd_at_in ha9 (by omega)]; simp [am_finish, h15]), by rw [htt, eN]; exact hP, va_K.moved hWW.alike hK⟩, hS.F htt⟩) hS.2.2 dd_M_finish_27
    · refine lv_iconst (v := bd_b false) hx hb dd_M_finish_18 (by decide) ?_
      have eN : nm_finish N O (bd_at (nI a) (N 6 0)) = N := by simp only [bd_at_in ha9 (by omega)]; simp [nm_finish, h15]
      exact W.zret (ty := .boolean) hx hb hr (bd_b_nar _) (fun tt htt hWW => ⟨⟨_, (), rfl, (by simp only [bd_at_in ha9 (by omega)]; simp [am_finish, h15]), by rw [htt, eN]; exact hP, va_K.moved hWW.alike hK⟩, hS.F htt⟩) hS.2.2 dd_M_finish_19
end
section
/-! Part 17: the reference: call, begin, advance, now. By wip/gen/gen_ref6.py. -/
set_option maxHeartbeats 4000000 in
set_option maxRecDepth 100000 in
theorem rc_call (l : Launch) (D : va_G) (ra : Nat → Nat) (ca : Nat → ClassId) (hJ : rf_J ra) (N : sp_N) (O : sp_O) (Z : sp_Z) (B : sp_B) (hB : sp_Bd N O) (h3q : 3 ≤ N 1 0) (ci q : Int32) (bar : Bool) : Met l my_M_call (Cond.code my_M_call cd_M_call 6 (some .int) :: bg_tbl) ({ frames := 2, cells := 0, slots := 0, locals := 48 }) (va_Pc [.ref (ra 0), .int ci, .int q, .int (bd_b bar)] (rf_U D ra ca N O Z B)) (va_Qi (fun r (_ : Unit) => r = am_call N O B (bd_at ci (N 6 0)) (bd_at q (N 1 0)) bar) (fun _ uu => rf_U D ra ca (nm_call N (ok_call N O B (bd_at ci (N 6 0)) (bd_at q (N 1 0)) bar)) (om_call N O (ok_call N O B (bd_at ci (N 6 0)) (bd_at q (N 1 0)) bar)) Z (bm_call N B bar (ok_call N O B (bd_at ci (N 6 0)) (bd_at q (N 1 0)) bar)) uu) (rf_A ra)) 0 0 (rf_A ra) := by
  refine Met.ofW (cc := cd_M_call) (maxL := 6) (ret := (some .int)) (by decide) rfl ?_
  intro p e s m args below meth c s₁ BB hml hv
  obtain ⟨rfl, hP, hK⟩ := hv
  have hx := BB.exec
  have hb := BB.bytes
  have hr := BB.returns
  have hts : ∀ w ∈ bg_tbl, w.before ([.ref (ra 0), .int ci, .int q, .int (bd_b bar)] : List Value).toArray s = true := fun w h => atoms_spec (ws := (Cond.code my_M_call cd_M_call 6 (some .int) :: bg_tbl)) BB.pre w (List.mem_cons_of_mem _ h)
  have hown : s.vm.findClass rn_M = some m.cls := findClass_of_methodNamed BB.named
  have hlocks := BB.notSynchronized
  obtain ⟨hB_0, hB_1, hB_2, hB_3, hB_4, hB_5, hB_6, hB_7, hB_8, hB_9, hB_10, hB_11, hB_12, hB_17⟩ := id hB
  have hS : va_S (rf_A ra) s.heap s.heap [] := va_S.rf
  have hl := lv_entry ([.ref (ra 0), .int ci, .int q, .int (bd_b bar)]) (n := 6) (Nat.le_of_ble_eq_true rfl)
  rw [lg_entry_eq]
  generalize (lg_sl ([.ref (ra 0), .int ci, .int q, .int (bd_b bar)]) ++ List.replicate (6 - (lg_sl ([.ref (ra 0), .int ci, .int q, .int (bd_b bar)])).length) Slot.unset).toArray = ls at hl ⊢
  have hl : lv_has ls 6 [(0, .ref (ra 0)), (1, .int ci), (2, .int q), (3, .int (bd_b bar))] := hl
  refine lv_aload_n hx hb dd_M_call_0 rfl (lv_at hl 0 rfl) ?_
  refine lv_iload_n hx hb dd_M_call_1 rfl (lv_at hl 1 rfl) ?_
  refine rf_calli (As := [.int ci]) (rest := []) (v := bd_b (bd_in ci (N 6 0))) ⟨hx, hb, hml, hown, hts⟩ (rc_isBlock l D ra ca N O Z B hB ci) (bg_cwV 1 hts tw_ml_M_115 tw_im_M_isBlock tw_se_M_isBlock tw_in_M tw_co_M_isBlock rfl rfl th_M_isBlock ⟨Nat.le_of_ble_eq_true rfl, Nat.le_of_ble_eq_true rfl⟩) hK hP rfl hl.1 rfl (by decide) dd_M_call_2 ⟨Nat.zero_le _, Nat.zero_le _⟩ ?_
  refine bq_zeq (tgt := 18) hx hb dd_M_call_5 rfl (fun h5 => ?_) (fun h5 => ?_)
  · refine lv_bipush (v := -3) hx hb dd_M_call_18 (by decide) ?_
    have eN : nm_call N (ok_call N O B (bd_at ci (N 6 0)) (bd_at q (N 1 0)) bar) = N := by simp only [bd_at_none h5]; simp [ok_call, nm_call]
    have eO : om_call N O (ok_call N O B (bd_at ci (N 6 0)) (bd_at q (N 1 0)) bar) = O := by simp only [bd_at_none h5]; simp [ok_call, om_call]
    have eB : bm_call N B bar (ok_call N O B (bd_at ci (N 6 0)) (bd_at q (N 1 0)) bar) = B := by simp only [bd_at_none h5]; simp [ok_call, bm_call]
    exact W.iret hx hb hr (fun tt htt hWW => ⟨⟨_, (), rfl, (by simp only [bd_at_none h5]; simp [am_call]), by rw [htt, eN, eO, eB]; exact hP, va_K.moved hWW.alike hK⟩, hS.F htt⟩) hS.2.2 dd_M_call_20
  · obtain ⟨a, ha9, rfl⟩ := bd_in_of h5 (by omega)
    refine lv_aload_n hx hb dd_M_call_8 rfl (lv_at hl 0 rfl) ?_
    refine va_get (D := D) (ci := 4) (v := .ref (ra 8)) (C := rn_M) (T := ft_M) (N := 19) hx hb hts tw_fs_M hown hK hP 0 rfl rfl 8 (by decide) (hts _ tw_fl_M_29) (fun _ h9 => h9) rfl dd_M_call_9 ?_
    refine lv_iload_n hx hb dd_M_call_12 rfl (lv_at hl 1 rfl) ?_
    refine bq_iald hx hb hK hP 6 5 rfl rfl (by omega) (by decide) dd_M_call_13 ?_
    refine lv_iconst (v := nI 3) hx hb dd_M_call_14 (by decide) ?_
    refine bq_eq (tgt := 21) hx hb (Nat.lt_trans (hB_8 a) (by decide)) (by decide) dd_M_call_15 rfl (fun h15 => ?_) (fun h15 => ?_)
    · refine lv_aload_n hx hb dd_M_call_21 rfl (lv_at hl 0 rfl) ?_
      refine lv_iload_n hx hb dd_M_call_22 rfl (lv_at hl 2 rfl) ?_
      refine rf_calli (As := [.int q]) (rest := []) (v := bd_b (bd_in q (N 1 0))) ⟨hx, hb, hml, hown, hts⟩ (rc_isQueue l D ra ca N O Z B hB q) (bg_cwV 1 hts tw_ml_M_102 tw_im_M_isQueue tw_se_M_isQueue tw_in_M tw_co_M_isQueue rfl rfl th_M_isQueue ⟨Nat.le_of_ble_eq_true rfl, Nat.le_of_ble_eq_true rfl⟩) hK hP rfl hl.1 rfl (by decide) dd_M_call_23 ⟨Nat.zero_le _, Nat.zero_le _⟩ ?_
      refine bq_zne (tgt := 31) hx hb dd_M_call_26 rfl (fun h26 => ?_) (fun h26 => ?_)
      · obtain ⟨b, hb9, rfl⟩ := bd_in_of h26 (by omega)
        have lp : ∀ (n : Nat) (cu : Option Nat) (k : Nat) (ls : Array Slot) (H : Heap) (locs : List Loc), (n + k = 160) → (∀ z, cu = some z → z < 160) → (sp_dl N O B b bar n cu = sp_dl N O B b bar 160 (some a)) →  va_P D vw_cl (rf_W ra ca N O Z B) H → va_S (rf_A ra) s.heap H locs → lv_has ls 6 [(0, .ref (ra 0)), (1, .int (nI a)), (2, .int (nI b)), (3, .int (bd_b bar)), (4, .int (bd_o cu)), (5, .int (nI k))] → W p l e (headSpec (Cond.code my_M_call cd_M_call 6 (some .int) :: bg_tbl) ({ frames := 2, cells := 0, slots := 0, locals := 48 })).room s m ([.ref (ra 0), .int (nI a), .int (nI b), .int (bd_b bar)] : List Value).toArray below meth c H locs 0 0 (MQ below (va_Qi (fun r (_ : Unit) => r = am_call N O B (bd_at (nI a) (N 6 0)) (bd_at (nI b) (N 1 0)) bar) (fun _ uu => rf_U D ra ca (nm_call N (ok_call N O B (bd_at (nI a) (N 6 0)) (bd_at (nI b) (N 1 0)) bar)) (om_call N O (ok_call N O B (bd_at (nI a) (N 6 0)) (bd_at (nI b) (N 1 0)) bar)) Z (bm_call N B bar (ok_call N O B (bd_at (nI a) (N 6 0)) (bd_at (nI b) (N 1 0)) bar)) uu) (rf_A ra)) ([.ref (ra 0), .int (nI a), .int (nI b), .int (bd_b bar)] : List Value).toArray s 0 0 (rf_A ra)) (F0 m 37 ls []) := by
          intro n
          induction n with
          | zero =>
            intro cu k ls H locs hk hcu he hP hS hl
            refine lv_iload hx hb dd_M_call_37 (lv_at hl 5 rfl) ?_
            refine lv_sipush (v := nI 160) hx hb dd_M_call_39 (by decide) ?_
            refine bq_ge (tgt := 79) hx hb (by omega) (by decide) dd_M_call_42 rfl (fun h42 => ?_) (fun h42 => ?_)
            · have hd : sp_dl N O B b bar 160 (some a) = false := by rw [← he]; rfl
              refine lv_aload_n hx hb dd_M_call_79 rfl (lv_at hl 0 rfl) ?_
              refine va_get (D := D) (ci := 4) (v := .int (nI (N 6 0))) (C := rn_M) (T := ft_M) (N := 19) hx hb hts tw_fs_M hown hK hP 0 rfl rfl 6 (by decide) (hts _ tw_fl_M_61) (fun _ h9 => h9) rfl dd_M_call_80 ?_
              refine lv_sipush (v := nI 160) hx hb dd_M_call_83 (by decide) ?_
              refine bq_ne (tgt := 92) hx hb (Nat.lt_of_le_of_lt hB_6 (by decide)) (by decide) dd_M_call_86 rfl (fun h86 => ?_) (fun h86 => ?_)
              · refine lv_aload_n hx hb dd_M_call_92 rfl (lv_at hl 0 rfl) ?_
                refine lv_iload_n hx hb dd_M_call_93 rfl (lv_at hl 2 rfl) ?_
                refine lv_iload_n hx hb dd_M_call_94 rfl (lv_at hl 3 rfl) ?_
                refine rf_callwi (As := [.int (nI b), .int (bd_b bar)]) (rest := []) (v := nI (N 6 0)) ⟨hx, hb, hml, hown, hts⟩ (rc_accept l D ra ca hJ N O Z B (by omega) b bar (by omega)) (bg_cwV 2 hts tw_ml_M_105 tw_im_M_accept tw_se_M_accept tw_in_M tw_co_M_accept rfl rfl th_M_accept ⟨Nat.le_of_ble_eq_true rfl, Nat.le_of_ble_eq_true rfl⟩) hK hP hS rfl hl.1 rfl (by decide) dd_M_call_95 ⟨Nat.zero_le _, Nat.zero_le _⟩ (fun H locs hP hS => ?_)
                refine lv_istore hx hb dd_M_call_98 hl (by decide) rfl (fun ls hl => ?_)
                have hl : lv_has ls 6 [(5, .int (nI (N 6 0))), (0, .ref (ra 0)), (1, .int (nI a)), (2, .int (nI b)), (3, .int (bd_b bar)), (4, .int (bd_o cu))] := hl
                refine lv_aload_n hx hb dd_M_call_100 rfl (lv_at hl 1 rfl) ?_
                refine va_get (D := D) (ci := 4) (v := .ref (ra 9)) (C := rn_M) (T := ft_M) (N := 19) hx hb hts tw_fs_M hown hK hP 0 rfl rfl 9 (by decide) (hts _ tw_fl_M_32) (fun _ h9 => h9) rfl dd_M_call_101 ?_
                refine lv_iload hx hb dd_M_call_104 (lv_at hl 0 rfl) ?_
                refine lv_iload_n hx hb dd_M_call_106 rfl (lv_at hl 2 rfl) ?_
                refine bq_oast (v := some a) hx hb hK hP (rf_D hJ ca (sp_AN N b) (sp_AO N O) Z (sp_AB N B b bar)) hS 7 6 rfl rfl (by omega) (by decide) dd_M_call_107 (fun H locs hP _ hS => ?_)
                have hP : va_P D vw_cl (rf_W ra ca (sp_AN N b) (sp_u (sp_AO N O) 9 (N 6 0) (some a)) Z (sp_AB N B b bar)) H := hP
                refine lv_aload_n hx hb dd_M_call_108 rfl (lv_at hl 1 rfl) ?_
                refine va_get (D := D) (ci := 4) (v := .ref (ra 8)) (C := rn_M) (T := ft_M) (N := 19) hx hb hts tw_fs_M hown hK hP 0 rfl rfl 8 (by decide) (hts _ tw_fl_M_29) (fun _ h9 => h9) rfl dd_M_call_109 ?_
                refine lv_iload_n hx hb dd_M_call_112 rfl (lv_at hl 2 rfl) ?_
                refine lv_iconst (v := nI 4) hx hb dd_M_call_113 (by decide) ?_
                refine bq_iast hx hb hK hP (rf_D hJ ca (sp_AN N b) (sp_u (sp_AO N O) 9 (N 6 0) (some a)) Z (sp_AB N B b bar)) hS 6 5 rfl rfl (by omega) (by decide) dd_M_call_114 (fun H locs hP _ hS => ?_)
                have hP : va_P D vw_cl (rf_W ra ca (sp_u (sp_AN N b) 8 a 4) (sp_u (sp_AO N O) 9 (N 6 0) (some a)) Z (sp_AB N B b bar)) H := hP
                refine lv_aload_n hx hb dd_M_call_115 rfl (lv_at hl 1 rfl) ?_
                refine lv_iload hx hb dd_M_call_116 (lv_at hl 0 rfl) ?_
                refine rf_callwv (As := [.int (nI (N 6 0))]) (rest := []) ⟨hx, hb, hml, hown, hts⟩ (rc_line l D ra ca hJ (sp_u (sp_AN N b) 8 a 4) (sp_u (sp_AO N O) 9 (N 6 0) (some a)) Z (sp_AB N B b bar) (N 6 0) (by omega)) (bg_cwV 1 hts tw_ml_M_95 tw_im_M_line tw_se_M_line tw_in_M tw_co_M_line rfl rfl th_M_line ⟨Nat.le_of_ble_eq_true rfl, Nat.le_of_ble_eq_true rfl⟩) hK hP hS rfl hl.1 rfl (by decide) dd_M_call_118 ⟨Nat.zero_le _, Nat.zero_le _⟩ (fun H locs hP hS => ?_)
                refine lv_iload hx hb dd_M_call_121 (lv_at hl 0 rfl) ?_
                have eN : nm_call N (ok_call N O B (bd_at (nI a) (N 6 0)) (bd_at (nI b) (N 1 0)) bar) = sp_L (sp_u (sp_AN N b) 8 a 4) (N 6 0) := by simp only [bd_at_in ha9 (by omega), bd_at_in hb9 (by omega)]; simp [ok_call, nm_call, h15, hd, h86]
                have eO : om_call N O (ok_call N O B (bd_at (nI a) (N 6 0)) (bd_at (nI b) (N 1 0)) bar) = sp_u (sp_AO N O) 9 (N 6 0) (some a) := by simp only [bd_at_in ha9 (by omega), bd_at_in hb9 (by omega)]; simp [ok_call, om_call, h15, hd, h86]
                have eB : bm_call N B bar (ok_call N O B (bd_at (nI a) (N 6 0)) (bd_at (nI b) (N 1 0)) bar) = sp_AB N B b bar := by simp only [bd_at_in ha9 (by omega), bd_at_in hb9 (by omega)]; simp [ok_call, bm_call, h15, hd, h86]
                exact W.iret hx hb hr (fun tt htt hWW => ⟨⟨_, (), rfl, (by simp only [bd_at_in ha9 (by omega), bd_at_in hb9 (by omega)]; simp [am_call, h15, hd, h86]), by rw [htt, eN, eO, eB]; exact hP, va_K.moved hWW.alike hK⟩, hS.F htt⟩) hS.2.2 dd_M_call_123
              · refine lv_bipush (v := -4) hx hb dd_M_call_89 (by decide) ?_
                have eN : nm_call N (ok_call N O B (bd_at (nI a) (N 6 0)) (bd_at (nI b) (N 1 0)) bar) = N := by simp only [bd_at_in ha9 (by omega), bd_at_in hb9 (by omega)]; simp [ok_call, nm_call, h15, hd, h86]
                have eO : om_call N O (ok_call N O B (bd_at (nI a) (N 6 0)) (bd_at (nI b) (N 1 0)) bar) = O := by simp only [bd_at_in ha9 (by omega), bd_at_in hb9 (by omega)]; simp [ok_call, om_call, h15, hd, h86]
                have eB : bm_call N B bar (ok_call N O B (bd_at (nI a) (N 6 0)) (bd_at (nI b) (N 1 0)) bar) = B := by simp only [bd_at_in ha9 (by omega), bd_at_in hb9 (by omega)]; simp [ok_call, bm_call, h15, hd, h86]
                exact W.iret hx hb hr (fun tt htt hWW => ⟨⟨_, (), rfl, (by simp only [bd_at_in ha9 (by omega), bd_at_in hb9 (by omega)]; simp [am_call, h15, hd, h86]), by rw [htt, eN, eO, eB]; exact hP, va_K.moved hWW.alike hK⟩, hS.F htt⟩) hS.2.2 dd_M_call_91
            · exact absurd h42 (by omega)
          | succ n ih =>
            intro cu k ls H locs hk hcu he hP hS hl
            refine lv_iload hx hb dd_M_call_37 (lv_at hl 5 rfl) ?_
            refine lv_sipush (v := nI 160) hx hb dd_M_call_39 (by decide) ?_
            refine bq_ge (tgt := 79) hx hb (by omega) (by decide) dd_M_call_42 rfl (fun h42 => ?_) (fun h42 => ?_)
            · exact absurd h42 (by omega)
            · refine lv_iload hx hb dd_M_call_45 (lv_at hl 4 rfl) ?_
              refine bq_olt (tgt := 79) hx hb (fun k hk => Nat.lt_trans (hcu k hk) (by decide)) dd_M_call_47 rfl (fun h47 => ?_) (fun h47 => ?_)
              · have hd : sp_dl N O B b bar 160 (some a) = false := by rw [← he, h47]; rfl
                refine lv_aload_n hx hb dd_M_call_79 rfl (lv_at hl 0 rfl) ?_
                refine va_get (D := D) (ci := 4) (v := .int (nI (N 6 0))) (C := rn_M) (T := ft_M) (N := 19) hx hb hts tw_fs_M hown hK hP 0 rfl rfl 6 (by decide) (hts _ tw_fl_M_61) (fun _ h9 => h9) rfl dd_M_call_80 ?_
                refine lv_sipush (v := nI 160) hx hb dd_M_call_83 (by decide) ?_
                refine bq_ne (tgt := 92) hx hb (Nat.lt_of_le_of_lt hB_6 (by decide)) (by decide) dd_M_call_86 rfl (fun h86 => ?_) (fun h86 => ?_)
                · refine lv_aload_n hx hb dd_M_call_92 rfl (lv_at hl 0 rfl) ?_
                  refine lv_iload_n hx hb dd_M_call_93 rfl (lv_at hl 2 rfl) ?_
                  refine lv_iload_n hx hb dd_M_call_94 rfl (lv_at hl 3 rfl) ?_
                  refine rf_callwi (As := [.int (nI b), .int (bd_b bar)]) (rest := []) (v := nI (N 6 0)) ⟨hx, hb, hml, hown, hts⟩ (rc_accept l D ra ca hJ N O Z B (by omega) b bar (by omega)) (bg_cwV 2 hts tw_ml_M_105 tw_im_M_accept tw_se_M_accept tw_in_M tw_co_M_accept rfl rfl th_M_accept ⟨Nat.le_of_ble_eq_true rfl, Nat.le_of_ble_eq_true rfl⟩) hK hP hS rfl hl.1 rfl (by decide) dd_M_call_95 ⟨Nat.zero_le _, Nat.zero_le _⟩ (fun H locs hP hS => ?_)
                  refine lv_istore hx hb dd_M_call_98 hl (by decide) rfl (fun ls hl => ?_)
                  have hl : lv_has ls 6 [(5, .int (nI (N 6 0))), (0, .ref (ra 0)), (1, .int (nI a)), (2, .int (nI b)), (3, .int (bd_b bar)), (4, .int (bd_o cu))] := hl
                  refine lv_aload_n hx hb dd_M_call_100 rfl (lv_at hl 1 rfl) ?_
                  refine va_get (D := D) (ci := 4) (v := .ref (ra 9)) (C := rn_M) (T := ft_M) (N := 19) hx hb hts tw_fs_M hown hK hP 0 rfl rfl 9 (by decide) (hts _ tw_fl_M_32) (fun _ h9 => h9) rfl dd_M_call_101 ?_
                  refine lv_iload hx hb dd_M_call_104 (lv_at hl 0 rfl) ?_
                  refine lv_iload_n hx hb dd_M_call_106 rfl (lv_at hl 2 rfl) ?_
                  refine bq_oast (v := some a) hx hb hK hP (rf_D hJ ca (sp_AN N b) (sp_AO N O) Z (sp_AB N B b bar)) hS 7 6 rfl rfl (by omega) (by decide) dd_M_call_107 (fun H locs hP _ hS => ?_)
                  have hP : va_P D vw_cl (rf_W ra ca (sp_AN N b) (sp_u (sp_AO N O) 9 (N 6 0) (some a)) Z (sp_AB N B b bar)) H := hP
                  refine lv_aload_n hx hb dd_M_call_108 rfl (lv_at hl 1 rfl) ?_
                  refine va_get (D := D) (ci := 4) (v := .ref (ra 8)) (C := rn_M) (T := ft_M) (N := 19) hx hb hts tw_fs_M hown hK hP 0 rfl rfl 8 (by decide) (hts _ tw_fl_M_29) (fun _ h9 => h9) rfl dd_M_call_109 ?_
                  refine lv_iload_n hx hb dd_M_call_112 rfl (lv_at hl 2 rfl) ?_
                  refine lv_iconst (v := nI 4) hx hb dd_M_call_113 (by decide) ?_
                  refine bq_iast hx hb hK hP (rf_D hJ ca (sp_AN N b) (sp_u (sp_AO N O) 9 (N 6 0) (some a)) Z (sp_AB N B b bar)) hS 6 5 rfl rfl (by omega) (by decide) dd_M_call_114 (fun H locs hP _ hS => ?_)
                  have hP : va_P D vw_cl (rf_W ra ca (sp_u (sp_AN N b) 8 a 4) (sp_u (sp_AO N O) 9 (N 6 0) (some a)) Z (sp_AB N B b bar)) H := hP
                  refine lv_aload_n hx hb dd_M_call_115 rfl (lv_at hl 1 rfl) ?_
                  refine lv_iload hx hb dd_M_call_116 (lv_at hl 0 rfl) ?_
                  refine rf_callwv (As := [.int (nI (N 6 0))]) (rest := []) ⟨hx, hb, hml, hown, hts⟩ (rc_line l D ra ca hJ (sp_u (sp_AN N b) 8 a 4) (sp_u (sp_AO N O) 9 (N 6 0) (some a)) Z (sp_AB N B b bar) (N 6 0) (by omega)) (bg_cwV 1 hts tw_ml_M_95 tw_im_M_line tw_se_M_line tw_in_M tw_co_M_line rfl rfl th_M_line ⟨Nat.le_of_ble_eq_true rfl, Nat.le_of_ble_eq_true rfl⟩) hK hP hS rfl hl.1 rfl (by decide) dd_M_call_118 ⟨Nat.zero_le _, Nat.zero_le _⟩ (fun H locs hP hS => ?_)
                  refine lv_iload hx hb dd_M_call_121 (lv_at hl 0 rfl) ?_
                  have eN : nm_call N (ok_call N O B (bd_at (nI a) (N 6 0)) (bd_at (nI b) (N 1 0)) bar) = sp_L (sp_u (sp_AN N b) 8 a 4) (N 6 0) := by simp only [bd_at_in ha9 (by omega), bd_at_in hb9 (by omega)]; simp [ok_call, nm_call, h15, hd, h86]
                  have eO : om_call N O (ok_call N O B (bd_at (nI a) (N 6 0)) (bd_at (nI b) (N 1 0)) bar) = sp_u (sp_AO N O) 9 (N 6 0) (some a) := by simp only [bd_at_in ha9 (by omega), bd_at_in hb9 (by omega)]; simp [ok_call, om_call, h15, hd, h86]
                  have eB : bm_call N B bar (ok_call N O B (bd_at (nI a) (N 6 0)) (bd_at (nI b) (N 1 0)) bar) = sp_AB N B b bar := by simp only [bd_at_in ha9 (by omega), bd_at_in hb9 (by omega)]; simp [ok_call, bm_call, h15, hd, h86]
                  exact W.iret hx hb hr (fun tt htt hWW => ⟨⟨_, (), rfl, (by simp only [bd_at_in ha9 (by omega), bd_at_in hb9 (by omega)]; simp [am_call, h15, hd, h86]), by rw [htt, eN, eO, eB]; exact hP, va_K.moved hWW.alike hK⟩, hS.F htt⟩) hS.2.2 dd_M_call_123
                · refine lv_bipush (v := -4) hx hb dd_M_call_89 (by decide) ?_
                  have eN : nm_call N (ok_call N O B (bd_at (nI a) (N 6 0)) (bd_at (nI b) (N 1 0)) bar) = N := by simp only [bd_at_in ha9 (by omega), bd_at_in hb9 (by omega)]; simp [ok_call, nm_call, h15, hd, h86]
                  have eO : om_call N O (ok_call N O B (bd_at (nI a) (N 6 0)) (bd_at (nI b) (N 1 0)) bar) = O := by simp only [bd_at_in ha9 (by omega), bd_at_in hb9 (by omega)]; simp [ok_call, om_call, h15, hd, h86]
                  have eB : bm_call N B bar (ok_call N O B (bd_at (nI a) (N 6 0)) (bd_at (nI b) (N 1 0)) bar) = B := by simp only [bd_at_in ha9 (by omega), bd_at_in hb9 (by omega)]; simp [ok_call, bm_call, h15, hd, h86]
                  exact W.iret hx hb hr (fun tt htt hWW => ⟨⟨_, (), rfl, (by simp only [bd_at_in ha9 (by omega), bd_at_in hb9 (by omega)]; simp [am_call, h15, hd, h86]), by rw [htt, eN, eO, eB]; exact hP, va_K.moved hWW.alike hK⟩, hS.F htt⟩) hS.2.2 dd_M_call_91
              · obtain ⟨c9, hc9⟩ := bd_ne h47
                have hl : lv_has ls 6 [(0, .ref (ra 0)), (1, .int (nI a)), (2, .int (nI b)), (3, .int (bd_b bar)), (4, .int (nI c9)), (5, .int (nI k))] := by rw [hc9] at hl; exact hl
                refine lv_aload_n hx hb dd_M_call_50 rfl (lv_at hl 0 rfl) ?_
                refine lv_iload hx hb dd_M_call_51 (lv_at hl 4 rfl) ?_
                refine lv_iload_n hx hb dd_M_call_53 rfl (lv_at hl 2 rfl) ?_
                refine lv_iload_n hx hb dd_M_call_54 rfl (lv_at hl 3 rfl) ?_
                refine rf_calli (As := [.int (nI c9), .int (nI b), .int (bd_b bar)]) (rest := []) (v := bd_b (sp_x N B c9 b bar)) ⟨hx, hb, hml, hown, hts⟩ (rc_inTheWay l D ra ca N O Z B hB h3q c9 b bar (hcu _ hc9) (by omega)) (bg_cwV 3 hts tw_ml_M_118 tw_im_M_inTheWay tw_se_M_inTheWay tw_in_M tw_co_M_inTheWay rfl rfl th_M_inTheWay ⟨Nat.le_of_ble_eq_true rfl, Nat.le_of_ble_eq_true rfl⟩) hK hP rfl hl.1 rfl (by decide) dd_M_call_55 ⟨Nat.zero_le _, Nat.zero_le _⟩ ?_
                refine bq_zeq (tgt := 64) hx hb dd_M_call_58 rfl (fun h58 => ?_) (fun h58 => ?_)
                · refine lv_aload_n hx hb dd_M_call_64 rfl (lv_at hl 0 rfl) ?_
                  refine va_get (D := D) (ci := 4) (v := .ref (ra 9)) (C := rn_M) (T := ft_M) (N := 19) hx hb hts tw_fs_M hown hK hP 0 rfl rfl 9 (by decide) (hts _ tw_fl_M_32) (fun _ h9 => h9) rfl dd_M_call_65 ?_
                  refine lv_iload hx hb dd_M_call_68 (lv_at hl 4 rfl) ?_
                  refine bq_iald hx hb hK hP 7 6 rfl rfl (hcu _ hc9) (by decide) dd_M_call_70 ?_
                  refine lv_istore hx hb dd_M_call_71 hl (by decide) rfl (fun ls hl => ?_)
                  have hl : lv_has ls 6 [(4, .int (bd_o (O 9 c9))), (0, .ref (ra 0)), (1, .int (nI a)), (2, .int (nI b)), (3, .int (bd_b bar)), (5, .int (nI k))] := hl
                  refine lv_iinc (k := 5) (v := nI (k + 1)) hx hb dd_M_call_73 hl rfl (nI_1 _) (by decide) rfl (fun ls hl => ?_)
                  have hl : lv_has ls 6 [(5, .int (nI (k + 1))), (4, .int (bd_o (O 9 c9))), (0, .ref (ra 0)), (1, .int (nI a)), (2, .int (nI b)), (3, .int (bd_b bar))] := hl
                  refine lv_goto (tgt := 37) hx hb dd_M_call_76 rfl ?_
                  exact ih (O 9 c9) (k + 1) ls H locs (by omega) (fun z hz => hB_9 _ _ hz) (by rw [← he, hc9, sp_dl, if_neg (by rw [h58]; decide)]) hP hS (lv_sub hl [2, 3, 4, 5, 1, 0] rfl)
                · have hd : sp_dl N O B b bar 160 (some a) = true := by rw [← he, hc9, sp_dl, if_pos h58]
                  refine lv_bipush (v := -7) hx hb dd_M_call_61 (by decide) ?_
                  have eN : nm_call N (ok_call N O B (bd_at (nI a) (N 6 0)) (bd_at (nI b) (N 1 0)) bar) = N := by simp only [bd_at_in ha9 (by omega), bd_at_in hb9 (by omega)]; simp [ok_call, nm_call, h15, hd]
                  have eO : om_call N O (ok_call N O B (bd_at (nI a) (N 6 0)) (bd_at (nI b) (N 1 0)) bar) = O := by simp only [bd_at_in ha9 (by omega), bd_at_in hb9 (by omega)]; simp [ok_call, om_call, h15, hd]
                  have eB : bm_call N B bar (ok_call N O B (bd_at (nI a) (N 6 0)) (bd_at (nI b) (N 1 0)) bar) = B := by simp only [bd_at_in ha9 (by omega), bd_at_in hb9 (by omega)]; simp [ok_call, bm_call, h15, hd]
                  exact W.iret hx hb hr (fun tt htt hWW => ⟨⟨_, (), rfl, (by simp only [bd_at_in ha9 (by omega), bd_at_in hb9 (by omega)]; simp [am_call, h15, hd]), by rw [htt, eN, eO, eB]; exact hP, va_K.moved hWW.alike hK⟩, hS.F htt⟩) hS.2.2 dd_M_call_63
        refine lv_iload_n hx hb dd_M_call_31 rfl (lv_at hl 1 rfl) ?_
        refine lv_istore hx hb dd_M_call_32 hl (by decide) rfl (fun ls hl => ?_)
        have hl : lv_has ls 6 [(4, .int (nI a)), (0, .ref (ra 0)), (1, .int (nI a)), (2, .int (nI b)), (3, .int (bd_b bar))] := hl
        refine lv_iconst (v := nI 0) hx hb dd_M_call_34 (by decide) ?_
        refine lv_istore hx hb dd_M_call_35 hl (by decide) rfl (fun ls hl => ?_)
        have hl : lv_has ls 6 [(5, .int (nI 0)), (4, .int (nI a)), (0, .ref (ra 0)), (1, .int (nI a)), (2, .int (nI b)), (3, .int (bd_b bar))] := hl
        exact lp 160 (some a) 0 ls _ _ (by omega) (fun z hz => by cases hz; omega) rfl hP hS (lv_sub hl [2, 3, 4, 5, 1, 0] rfl)
      · refine lv_iconst (v := -1) hx hb dd_M_call_29 (by decide) ?_
        have eN : nm_call N (ok_call N O B (bd_at (nI a) (N 6 0)) (bd_at q (N 1 0)) bar) = N := by simp only [bd_at_in ha9 (by omega), bd_at_none h26]; simp [ok_call, nm_call, h15]
        have eO : om_call N O (ok_call N O B (bd_at (nI a) (N 6 0)) (bd_at q (N 1 0)) bar) = O := by simp only [bd_at_in ha9 (by omega), bd_at_none h26]; simp [ok_call, om_call, h15]
        have eB : bm_call N B bar (ok_call N O B (bd_at (nI a) (N 6 0)) (bd_at q (N 1 0)) bar) = B := by simp only [bd_at_in ha9 (by omega), bd_at_none h26]; simp [ok_call, bm_call, h15]
        exact W.iret hx hb hr (fun tt htt hWW => ⟨⟨_, (), rfl, (by simp only [bd_at_in ha9 (by omega), bd_at_none h26]; simp [am_call, h15]), by rw [htt, eN, eO, eB]; exact hP, va_K.moved hWW.alike hK⟩, hS.F htt⟩) hS.2.2 dd_M_call_30
    · refine lv_bipush (v := -3) hx hb dd_M_call_18 (by decide) ?_
      have eN : nm_call N (ok_call N O B (bd_at (nI a) (N 6 0)) (bd_at q (N 1 0)) bar) = N := by simp only [bd_at_in ha9 (by omega)]; simp [ok_call, nm_call, h15]
      have eO : om_call N O (ok_call N O B (bd_at (nI a) (N 6 0)) (bd_at q (N 1 0)) bar) = O := by simp only [bd_at_in ha9 (by omega)]; simp [ok_call, om_call, h15]
      have eB : bm_call N B bar (ok_call N O B (bd_at (nI a) (N 6 0)) (bd_at q (N 1 0)) bar) = B := by simp only [bd_at_in ha9 (by omega)]; simp [ok_call, bm_call, h15]
      exact W.iret hx hb hr (fun tt htt hWW => ⟨⟨_, (), rfl, (by simp only [bd_at_in ha9 (by omega)]; simp [am_call, h15]), by rw [htt, eN, eO, eB]; exact hP, va_K.moved hWW.alike hK⟩, hS.F htt⟩) hS.2.2 dd_M_call_20

set_option maxHeartbeats 4000000 in
set_option maxRecDepth 100000 in
theorem rc_begin (l : Launch) (D : va_G) (ra : Nat → Nat) (ca : Nat → ClassId) (hJ : rf_J ra) (N : sp_N) (O : sp_O) (Z : sp_Z) (B : sp_B)  (hok0 : sp_okb O B 161 N) : Met l my_M_begin (Cond.code my_M_begin cd_M_begin 4 (some .int) :: bg_tbl) ({ frames := 5, cells := 0, slots := 0, locals := 116 }) (va_Pc [.ref (ra 0)] (rf_U D ra ca N O Z B)) (va_Qi (fun r (_ : Unit) => r = am_begin N O B) (fun _ uu => rf_U D ra ca (nm_begin N O B) O Z B uu) (rf_A ra)) 0 0 (rf_A ra) := by
  refine Met.ofW (cc := cd_M_begin) (maxL := 4) (ret := (some .int)) (by decide) rfl ?_
  intro p e s m args below meth c s₁ BB hml hv
  obtain ⟨rfl, hP, hK⟩ := hv
  have hx := BB.exec
  have hb := BB.bytes
  have hr := BB.returns
  have hts : ∀ w ∈ bg_tbl, w.before ([.ref (ra 0)] : List Value).toArray s = true := fun w h => atoms_spec (ws := (Cond.code my_M_begin cd_M_begin 4 (some .int) :: bg_tbl)) BB.pre w (List.mem_cons_of_mem _ h)
  have hown : s.vm.findClass rn_M = some m.cls := findClass_of_methodNamed BB.named
  have hlocks := BB.notSynchronized
  have hS : va_S (rf_A ra) s.heap s.heap [] := va_S.rf
  have hl := lv_entry ([.ref (ra 0)]) (n := 4) (Nat.le_of_ble_eq_true rfl)
  rw [lg_entry_eq]
  generalize (lg_sl ([.ref (ra 0)]) ++ List.replicate (4 - (lg_sl ([.ref (ra 0)])).length) Slot.unset).toArray = ls at hl ⊢
  have hl : lv_has ls 4 [(0, .ref (ra 0))] := hl
  have fin : ∀ (M : sp_N) (o : Option Nat) (ls : Array Slot) (H : Heap) (locs : List Loc), sp_Bd M O → sp_bf O B 161 N = M → o = sp_h M O B (M 6 0) → va_P D vw_cl (rf_W ra ca M O Z B) H → va_S (rf_A ra) s.heap H locs → lv_has ls 4 [(0, .ref (ra 0)), (1, .int (bd_o o))] → W p l e (headSpec (Cond.code my_M_begin cd_M_begin 4 (some .int) :: bg_tbl) ({ frames := 5, cells := 0, slots := 0, locals := 116 })).room s m ([.ref (ra 0)] : List Value).toArray below meth c H locs 0 0 (MQ below (va_Qi (fun r (_ : Unit) => r = am_begin N O B) (fun _ uu => rf_U D ra ca (nm_begin N O B) O Z B uu) (rf_A ra)) ([.ref (ra 0)] : List Value).toArray s 0 0 (rf_A ra)) (F0 m 45 ls []) := by
    intro M o ls H locs hBM hf ho hP hS hl
    have hM6 : M 6 0 ≤ 160 := hBM.2.2.2.2.2.2.1
    have hM1 : M 1 0 ≤ 12 := hBM.2.1
    refine lv_iload_n hx hb dd_M_begin_45 rfl (lv_at hl 1 rfl) ?_
    refine bq_oge (tgt := 52) hx hb (fun z hz => by have h9 := sp_h_lt (ho.symm.trans hz); omega) dd_M_begin_46 rfl (fun h46 => ?_) (fun h46 => ?_)
    · obtain ⟨t, ht9⟩ := bd_ne h46
      have ht8 := sp_h_lt (ho.symm.trans ht9)
      have hl : lv_has ls 4 [(0, .ref (ra 0)), (1, .int (nI t))] := by rw [ht9] at hl; exact hl
      refine lv_aload_n hx hb dd_M_begin_52 rfl (lv_at hl 0 rfl) ?_
      refine va_get (D := D) (ci := 4) (v := .ref (ra 8)) (C := rn_M) (T := ft_M) (N := 19) hx hb hts tw_fs_M hown hK hP 0 rfl rfl 8 (by decide) (hts _ tw_fl_M_29) (fun _ h9 => h9) rfl dd_M_begin_53 ?_
      refine lv_iload_n hx hb dd_M_begin_56 rfl (lv_at hl 1 rfl) ?_
      refine lv_iconst (v := nI 3) hx hb dd_M_begin_57 (by decide) ?_
      refine bq_iast hx hb hK hP (rf_D hJ ca M O Z B) hS 6 5 rfl rfl (by omega) (by decide) dd_M_begin_58 (fun H locs hP _ hS => ?_)
      have hP : va_P D vw_cl (rf_W ra ca (sp_u M 8 t 3) O Z B) H := hP
      have lp2 : ∀ (n : Nat) (x : Nat) (K : sp_N) (ls : Array Slot) (H : Heap) (locs : List Loc), (n + x = M 1 0) → (K = sp_pk (sp_u M 8 t 3) x) → (K 1 0 = M 1 0) → (K 6 0 = M 6 0) → (sp_Bd K O) →  va_P D vw_cl (rf_W ra ca K O Z B) H → va_S (rf_A ra) s.heap H locs → lv_has ls 4 [(0, .ref (ra 0)), (1, .int (nI t)), (2, .int (nI x))] → W p l e (headSpec (Cond.code my_M_begin cd_M_begin 4 (some .int) :: bg_tbl) ({ frames := 5, cells := 0, slots := 0, locals := 116 })).room s m ([.ref (ra 0)] : List Value).toArray below meth c H locs 0 0 (MQ below (va_Qi (fun r (_ : Unit) => r = am_begin N O B) (fun _ uu => rf_U D ra ca (nm_begin N O B) O Z B uu) (rf_A ra)) ([.ref (ra 0)] : List Value).toArray s 0 0 (rf_A ra)) (F0 m 61 ls []) := by
        intro n
        induction n with
        | zero =>
          intro x K ls H locs hk hKe h1 h6 hBK hP hS hl
          refine lv_iload_n hx hb dd_M_begin_61 rfl (lv_at hl 2 rfl) ?_
          refine lv_aload_n hx hb dd_M_begin_62 rfl (lv_at hl 0 rfl) ?_
          refine va_get (D := D) (ci := 4) (v := .int (nI (K 1 0))) (C := rn_M) (T := ft_M) (N := 19) hx hb hts tw_fs_M hown hK hP 0 rfl rfl 1 (by decide) (hts _ tw_fl_M_7) (fun _ h9 => h9) rfl dd_M_begin_63 ?_
          refine bq_ge (tgt := 107) hx hb (by omega) (by omega) dd_M_begin_66 rfl (fun h66 => ?_) (fun h66 => ?_)
          · refine lv_iload_n hx hb dd_M_begin_107 rfl (lv_at hl 1 rfl) ?_
            have eN : nm_begin N O B = K := by rw [nm_begin, hf, ← ho, ht9, hKe, show x = M 1 0 by omega]; rfl
            exact W.iret hx hb hr (fun tt htt hWW => ⟨⟨_, (), rfl, (by rw [am_begin, hf, ← ho, ht9]; rfl), by rw [htt, eN]; exact hP, va_K.moved hWW.alike hK⟩, hS.F htt⟩) hS.2.2 dd_M_begin_108
          · exact absurd h66 (by omega)
        | succ n ih =>
          intro x K ls H locs hk hKe h1 h6 hBK hP hS hl
          refine lv_iload_n hx hb dd_M_begin_61 rfl (lv_at hl 2 rfl) ?_
          refine lv_aload_n hx hb dd_M_begin_62 rfl (lv_at hl 0 rfl) ?_
          refine va_get (D := D) (ci := 4) (v := .int (nI (K 1 0))) (C := rn_M) (T := ft_M) (N := 19) hx hb hts tw_fs_M hown hK hP 0 rfl rfl 1 (by decide) (hts _ tw_fl_M_7) (fun _ h9 => h9) rfl dd_M_begin_63 ?_
          refine bq_ge (tgt := 107) hx hb (by omega) (by omega) dd_M_begin_66 rfl (fun h66 => ?_) (fun h66 => ?_)
          · exact absurd h66 (by omega)
          · refine lv_aload_n hx hb dd_M_begin_69 rfl (lv_at hl 0 rfl) ?_
            refine lv_iload_n hx hb dd_M_begin_70 rfl (lv_at hl 2 rfl) ?_
            refine rf_calli (As := [.int (nI x)]) (rest := []) (v := nI (sp_p K x)) ⟨hx, hb, hml, hown, hts⟩ (rc_passing l D ra ca K O Z B hBK x (by omega)) (bg_cwV 1 hts tw_ml_M_72 tw_im_M_passing tw_se_M_passing tw_in_M tw_co_M_passing rfl rfl th_M_passing ⟨Nat.le_of_ble_eq_true rfl, Nat.le_of_ble_eq_true rfl⟩) hK hP rfl hl.1 rfl (by decide) dd_M_begin_71 ⟨Nat.zero_le _, Nat.zero_le _⟩ ?_
            refine lv_istore_n hx hb dd_M_begin_74 rfl hl (by decide) rfl (fun ls hl => ?_)
            have hl : lv_has ls 4 [(3, .int (nI (sp_p K x))), (0, .ref (ra 0)), (1, .int (nI t)), (2, .int (nI x))] := hl
            refine lv_aload_n hx hb dd_M_begin_75 rfl (lv_at hl 1 rfl) ?_
            refine va_get (D := D) (ci := 4) (v := .ref (ra 5)) (C := rn_M) (T := ft_M) (N := 19) hx hb hts tw_fs_M hown hK hP 0 rfl rfl 5 (by decide) (hts _ tw_fl_M_23) (fun _ h9 => h9) rfl dd_M_begin_76 ?_
            refine lv_iload_n hx hb dd_M_begin_79 rfl (lv_at hl 3 rfl) ?_
            refine lv_iload_n hx hb dd_M_begin_80 rfl (lv_at hl 0 rfl) ?_
            refine lv_aload_n hx hb dd_M_begin_81 rfl (lv_at hl 1 rfl) ?_
            refine va_get (D := D) (ci := 4) (v := .ref (ra 5)) (C := rn_M) (T := ft_M) (N := 19) hx hb hts tw_fs_M hown hK hP 0 rfl rfl 5 (by decide) (hts _ tw_fl_M_23) (fun _ h9 => h9) rfl dd_M_begin_82 ?_
            refine lv_iload_n hx hb dd_M_begin_85 rfl (lv_at hl 3 rfl) ?_
            refine bq_iald hx hb hK hP 4 3 rfl rfl (by omega) (by decide) dd_M_begin_86 ?_
            refine bq_le (tgt := 94) hx hb (Nat.lt_of_le_of_lt (sp_c_le _ _) (by omega)) (Nat.lt_of_le_of_lt (hBK.2.2.2.2.2.1 x) (by decide)) dd_M_begin_87 rfl (fun h87 => ?_) (fun h87 => ?_)
            · refine lv_aload_n hx hb dd_M_begin_94 rfl (lv_at hl 1 rfl) ?_
              refine va_get (D := D) (ci := 4) (v := .ref (ra 5)) (C := rn_M) (T := ft_M) (N := 19) hx hb hts tw_fs_M hown hK hP 0 rfl rfl 5 (by decide) (hts _ tw_fl_M_23) (fun _ h9 => h9) rfl dd_M_begin_95 ?_
              refine lv_iload_n hx hb dd_M_begin_98 rfl (lv_at hl 3 rfl) ?_
              refine bq_iald hx hb hK hP 4 3 rfl rfl (by omega) (by decide) dd_M_begin_99 ?_
              refine bq_iast hx hb hK hP (rf_D hJ ca K O Z B) hS 4 3 rfl rfl (by omega) (by decide) dd_M_begin_100 (fun H locs hP _ hS => ?_)
              have hP : va_P D vw_cl (rf_W ra ca (sp_u K 5 x (K 5 x)) O Z B) H := hP
              refine lv_iinc (k := 3) (v := nI (x + 1)) hx hb dd_M_begin_101 hl rfl (nI_1 _) (by decide) rfl (fun ls hl => ?_)
              have hl : lv_has ls 4 [(2, .int (nI (x + 1))), (3, .int (nI (sp_p K x))), (0, .ref (ra 0)), (1, .int (nI t))] := hl
              refine lv_goto (tgt := 61) hx hb dd_M_begin_104 rfl ?_
              exact ih (x + 1) (sp_u K 5 x (K 5 x)) ls H locs (by omega) (by rw [sp_pk, ← hKe]; rw [if_pos h87]) h1 h6 (sp_Bd_5 hBK x _ (by exact hBK.2.2.2.2.2.1 x)) hP hS (lv_sub hl [2, 3, 0] rfl)
            · refine lv_iload_n hx hb dd_M_begin_90 rfl (lv_at hl 0 rfl) ?_
              refine lv_goto (tgt := 100) hx hb dd_M_begin_91 rfl ?_
              refine bq_iast hx hb hK hP (rf_D hJ ca K O Z B) hS 4 3 rfl rfl (by omega) (by decide) dd_M_begin_100 (fun H locs hP _ hS => ?_)
              have hP : va_P D vw_cl (rf_W ra ca (sp_u K 5 x (sp_p K x)) O Z B) H := hP
              refine lv_iinc (k := 3) (v := nI (x + 1)) hx hb dd_M_begin_101 hl rfl (nI_1 _) (by decide) rfl (fun ls hl => ?_)
              have hl : lv_has ls 4 [(2, .int (nI (x + 1))), (3, .int (nI (sp_p K x))), (0, .ref (ra 0)), (1, .int (nI t))] := hl
              refine lv_goto (tgt := 61) hx hb dd_M_begin_104 rfl ?_
              exact ih (x + 1) (sp_u K 5 x (sp_p K x)) ls H locs (by omega) (by rw [sp_pk, ← hKe]; rw [if_neg (by omega)]) h1 h6 (sp_Bd_5 hBK x _ (by have h9 := sp_c_le (fun t => sp_v K t && sp_l K (K 7 t) x) (K 6 0); unfold sp_p; omega)) hP hS (lv_sub hl [2, 3, 0] rfl)
      refine lv_iconst (v := nI 0) hx hb dd_M_begin_59 (by decide) ?_
      refine lv_istore_n hx hb dd_M_begin_60 rfl hl (by decide) rfl (fun ls hl => ?_)
      have hl : lv_has ls 4 [(2, .int (nI 0)), (0, .ref (ra 0)), (1, .int (nI t))] := hl
      exact lp2 (M 1 0) 0 (sp_u M 8 t 3) ls _ _ (by omega) rfl rfl rfl (sp_Bd_8 hBM t 3 (by decide)) hP hS (lv_sub hl [1, 2, 0] rfl)
    · refine lv_bipush (v := -8) hx hb dd_M_begin_49 (by decide) ?_
      have eN : nm_begin N O B = M := by rw [nm_begin, hf, ← ho, h46]; rfl
      exact W.iret hx hb hr (fun tt htt hWW => ⟨⟨_, (), rfl, (by rw [am_begin, hf, ← ho, h46]; rfl), by rw [htt, eN]; exact hP, va_K.moved hWW.alike hK⟩, hS.F htt⟩) hS.2.2 dd_M_begin_51
  have lp : ∀ (n : Nat) (M : sp_N) (k : Nat) (ls : Array Slot) (H : Heap) (locs : List Loc), (n + k = 161) → (sp_okb O B n M) → (sp_bf O B n M = sp_bf O B 161 N) →  va_P D vw_cl (rf_W ra ca M O Z B) H → va_S (rf_A ra) s.heap H locs → lv_has ls 4 [(0, .ref (ra 0)), (1, .int (bd_o (sp_h M O B (M 6 0)))), (2, .int (nI k))] → W p l e (headSpec (Cond.code my_M_begin cd_M_begin 4 (some .int) :: bg_tbl) ({ frames := 5, cells := 0, slots := 0, locals := 116 })).room s m ([.ref (ra 0)] : List Value).toArray below meth c H locs 0 0 (MQ below (va_Qi (fun r (_ : Unit) => r = am_begin N O B) (fun _ uu => rf_U D ra ca (nm_begin N O B) O Z B uu) (rf_A ra)) ([.ref (ra 0)] : List Value).toArray s 0 0 (rf_A ra)) (F0 m 7 ls []) := by
    intro n
    induction n with
    | zero =>
      intro M k ls H locs hk hok he hP hS hl
      have hM6 : M 6 0 ≤ 160 := (sp_okb_Bd hok).2.2.2.2.2.2.1
      refine lv_iload_n hx hb dd_M_begin_7 rfl (lv_at hl 2 rfl) ?_
      refine lv_sipush (v := nI 161) hx hb dd_M_begin_8 (by decide) ?_
      refine bq_ge (tgt := 45) hx hb (by omega) (by decide) dd_M_begin_11 rfl (fun h11 => ?_) (fun h11 => ?_)
      · exact fin M _ ls H locs (sp_okb_Bd hok) he.symm rfl hP hS (lv_sub hl [0, 1] rfl)
      · exact absurd h11 (by omega)
    | succ n ih =>
      intro M k ls H locs hk hok he hP hS hl
      have hM6 : M 6 0 ≤ 160 := (sp_okb_Bd hok).2.2.2.2.2.2.1
      refine lv_iload_n hx hb dd_M_begin_7 rfl (lv_at hl 2 rfl) ?_
      refine lv_sipush (v := nI 161) hx hb dd_M_begin_8 (by decide) ?_
      refine bq_ge (tgt := 45) hx hb (by omega) (by decide) dd_M_begin_11 rfl (fun h11 => ?_) (fun h11 => ?_)
      · exact absurd h11 (by omega)
      · refine lv_iload_n hx hb dd_M_begin_14 rfl (lv_at hl 1 rfl) ?_
        refine bq_olt (tgt := 45) hx hb (fun z hz => by have h9 := sp_h_lt hz; omega) dd_M_begin_15 rfl (fun h15 => ?_) (fun h15 => ?_)
        · exact fin M _ ls H locs (sp_okb_Bd hok) (by rw [← he, sp_bf, h15]) rfl hP hS (lv_sub hl [0, 1] rfl)
        · obtain ⟨t, ht9⟩ := bd_ne h15
          have ht8 := sp_h_lt ht9
          have hl : lv_has ls 4 [(0, .ref (ra 0)), (1, .int (nI t)), (2, .int (nI k))] := by rw [ht9] at hl; exact hl
          refine lv_aload_n hx hb dd_M_begin_18 rfl (lv_at hl 0 rfl) ?_
          refine va_get (D := D) (ci := 4) (v := .ref (ra 15)) (C := rn_M) (T := ft_M) (N := 19) hx hb hts tw_fs_M hown hK hP 0 rfl rfl 15 (by decide) (hts _ tw_fl_M_52) (fun _ h9 => h9) rfl dd_M_begin_19 ?_
          refine lv_iload_n hx hb dd_M_begin_22 rfl (lv_at hl 1 rfl) ?_
          refine bq_zald hx hb hK hP 13 12 rfl rfl (by omega) (by decide) dd_M_begin_23 ?_
          refine bq_zeq (tgt := 45) hx hb dd_M_begin_24 rfl (fun h24 => ?_) (fun h24 => ?_)
          · exact fin M (some t) ls H locs (sp_okb_Bd hok) (by rw [← he, sp_bf, ht9]; simp [h24]) ht9.symm hP hS (lv_sub hl [0, 1] rfl)
          · refine lv_aload_n hx hb dd_M_begin_27 rfl (lv_at hl 0 rfl) ?_
            refine lv_iload_n hx hb dd_M_begin_28 rfl (lv_at hl 1 rfl) ?_
            refine lv_bipush (v := nI 6) hx hb dd_M_begin_29 (by decide) ?_
            refine rf_callwv (As := [.int (nI t), .int (nI 6)]) (rest := []) ⟨hx, hb, hml, hown, hts⟩ (rc_end l D ra ca hJ M O Z B (sp_okb_Bd hok) t 6 (by omega) (by decide)) (bg_cwV 2 hts tw_ml_M_131 tw_im_M_end tw_se_M_end tw_in_M tw_co_M_end rfl rfl th_M_end ⟨Nat.le_of_ble_eq_true rfl, Nat.le_of_ble_eq_true rfl⟩) hK hP hS rfl hl.1 rfl (by decide) dd_M_begin_31 ⟨Nat.zero_le _, Nat.zero_le _⟩ (fun H locs hP hS => ?_)
            refine lv_aload_n hx hb dd_M_begin_34 rfl (lv_at hl 0 rfl) ?_
            refine rf_calli (As := []) (rest := []) (v := bd_o (sp_h (sp_E M O t 6) O B ((sp_E M O t 6) 6 0))) ⟨hx, hb, hml, hown, hts⟩ (rc_chosen l D ra ca (sp_E M O t 6) O Z B (sp_okb_Bd (hok.2 _ ht9 h24))) (bg_cwV 0 hts tw_ml_M_128 tw_im_M_chosen tw_se_M_chosen tw_in_M tw_co_M_chosen rfl rfl th_M_chosen ⟨Nat.le_of_ble_eq_true rfl, Nat.le_of_ble_eq_true rfl⟩) hK hP rfl hl.1 rfl (by decide) dd_M_begin_35 ⟨Nat.zero_le _, Nat.zero_le _⟩ ?_
            refine lv_istore_n hx hb dd_M_begin_38 rfl hl (by decide) rfl (fun ls hl => ?_)
            have hl : lv_has ls 4 [(1, .int (bd_o (sp_h (sp_E M O t 6) O B ((sp_E M O t 6) 6 0)))), (0, .ref (ra 0)), (2, .int (nI k))] := hl
            refine lv_iinc (k := 2) (v := nI (k + 1)) hx hb dd_M_begin_39 hl rfl (nI_1 _) (by decide) rfl (fun ls hl => ?_)
            have hl : lv_has ls 4 [(2, .int (nI (k + 1))), (1, .int (bd_o (sp_h (sp_E M O t 6) O B ((sp_E M O t 6) 6 0)))), (0, .ref (ra 0))] := hl
            refine lv_goto (tgt := 7) hx hb dd_M_begin_42 rfl ?_
            exact ih (sp_E M O t 6) (k + 1) ls H locs (by omega) (hok.2 _ ht9 h24) (by rw [← he, sp_bf, ht9]; simp [h24]) hP hS (lv_sub hl [2, 1, 0] rfl)
  refine lv_aload_n hx hb dd_M_begin_0 rfl (lv_at hl 0 rfl) ?_
  refine rf_calli (As := []) (rest := []) (v := bd_o (sp_h N O B (N 6 0))) ⟨hx, hb, hml, hown, hts⟩ (rc_chosen l D ra ca N O Z B (sp_okb_Bd hok0)) (bg_cwV 0 hts tw_ml_M_128 tw_im_M_chosen tw_se_M_chosen tw_in_M tw_co_M_chosen rfl rfl th_M_chosen ⟨Nat.le_of_ble_eq_true rfl, Nat.le_of_ble_eq_true rfl⟩) hK hP rfl hl.1 rfl (by decide) dd_M_begin_1 ⟨Nat.zero_le _, Nat.zero_le _⟩ ?_
  refine lv_istore_n hx hb dd_M_begin_4 rfl hl (by decide) rfl (fun ls hl => ?_)
  have hl : lv_has ls 4 [(1, .int (bd_o (sp_h N O B (N 6 0)))), (0, .ref (ra 0))] := hl
  refine lv_iconst (v := nI 0) hx hb dd_M_begin_5 (by decide) ?_
  refine lv_istore_n hx hb dd_M_begin_6 rfl hl (by decide) rfl (fun ls hl => ?_)
  have hl : lv_has ls 4 [(2, .int (nI 0)), (1, .int (bd_o (sp_h N O B (N 6 0)))), (0, .ref (ra 0))] := hl
  exact lp 161 N 0 ls _ _ (by omega) hok0 rfl hP hS (lv_sub hl [2, 1, 0] rfl)

set_option maxHeartbeats 4000000 in
set_option maxRecDepth 100000 in
theorem rc_advance (l : Launch) (D : va_G) (ra : Nat → Nat) (ca : Nat → ClassId) (hJ : rf_J ra) (N : sp_N) (O : sp_O) (Z : sp_Z) (B : sp_B)  (d : Int64) (hok0 : sp_oka O (zm_adv Z d) 160 N) : Met l my_M_advance (Cond.code my_M_advance cd_M_advance 5 (some .int) :: bg_tbl) ({ frames := 1, cells := 0, slots := 0, locals := 22 }) (va_Pc [.ref (ra 0), .long d] (rf_U D ra ca N O Z B)) (va_Qi (fun r (_ : Unit) => r = am_adv N Z d) (fun _ uu => rf_U D ra ca (nm_adv N Z d) O (zm_adv Z d) B uu) (rf_A ra)) 0 0 (rf_A ra) := by
  refine Met.ofW (cc := cd_M_advance) (maxL := 5) (ret := (some .int)) (by decide) rfl ?_
  intro p e s m args below meth c s₁ BB hml hv
  obtain ⟨rfl, hP, hK⟩ := hv
  have hx := BB.exec
  have hb := BB.bytes
  have hr := BB.returns
  have hts : ∀ w ∈ bg_tbl, w.before ([.ref (ra 0), .long d] : List Value).toArray s = true := fun w h => atoms_spec (ws := (Cond.code my_M_advance cd_M_advance 5 (some .int) :: bg_tbl)) BB.pre w (List.mem_cons_of_mem _ h)
  have hown : s.vm.findClass rn_M = some m.cls := findClass_of_methodNamed BB.named
  have hlocks := BB.notSynchronized
  have hS : va_S (rf_A ra) s.heap s.heap [] := va_S.rf
  have hl := lv_entry ([.ref (ra 0), .long d]) (n := 5) (Nat.le_of_ble_eq_true rfl)
  rw [lg_entry_eq]
  generalize (lg_sl ([.ref (ra 0), .long d]) ++ List.replicate (5 - (lg_sl ([.ref (ra 0), .long d])).length) Slot.unset).toArray = ls at hl ⊢
  have hl : lv_has ls 5 [(0, .ref (ra 0)), (1, .long d)] := hl
  refine lv_lload_n hx hb dd_M_advance_0 rfl (lv_at hl 1 rfl) ?_
  refine lv_lconst (v := 0) hx hb dd_M_advance_1 rfl ?_
  refine W.lcmp hx hb dd_M_advance_2 ?_
  refine bq_lge (tgt := 9) hx hb dd_M_advance_3 rfl (fun h3 => ?_) (fun h3 => ?_)
  · refine lv_aload_n hx hb dd_M_advance_9 rfl (lv_at hl 0 rfl) ?_
    refine lv_lload_n hx hb dd_M_advance_10 rfl (lv_at hl 1 rfl) ?_
    refine lv_ldc2 (v := 9223372036854775806) hx hb hown (hts _ tw_k2_M_135) dd_M_advance_11 ?_
    refine lv_aload_n hx hb dd_M_advance_14 rfl (lv_at hl 0 rfl) ?_
    refine va_get (D := D) (ci := 4) (v := .long (Z 18 0)) (C := rn_M) (T := ft_M) (N := 19) hx hb hts tw_fs_M hown hK hP 0 rfl rfl 18 (by decide) (hts _ tw_fl_M_111) (fun _ h9 => h9) rfl dd_M_advance_15 ?_
    refine lv_lsub hx hb dd_M_advance_18 ?_
    refine W.lcmp hx hb dd_M_advance_19 ?_
    refine bq_lle (tgt := 29) hx hb dd_M_advance_20 rfl (fun h20 => ?_) (fun h20 => ?_)
    · refine lv_aload_n hx hb dd_M_advance_29 rfl (lv_at hl 0 rfl) ?_
      refine va_get (D := D) (ci := 4) (v := .long (Z 18 0)) (C := rn_M) (T := ft_M) (N := 19) hx hb hts tw_fs_M hown hK hP 0 rfl rfl 18 (by decide) (hts _ tw_fl_M_111) (fun _ h9 => h9) rfl dd_M_advance_30 ?_
      refine lv_lload_n hx hb dd_M_advance_33 rfl (lv_at hl 1 rfl) ?_
      refine lv_ladd hx hb dd_M_advance_34 ?_
      refine va_put (D := D) (ci := 4) (v := .long ((Z 18 0) + d)) (ty := .long) (C := rn_M) (T := ft_M) (N := 19) hx hb hts tw_fs_M fy_M fo_M fn_M hown hK hP (rf_D hJ ca N O Z B) hS 0 rfl rfl 18 (by decide) (hts _ tw_fl_M_111) (fun _ h9 => h9) rfl (by decide +kernel) rfl rfl (Nat.le_of_ble_eq_true rfl) dd_M_advance_35 (fun H locs hP _ hS => ?_)
      have hP : va_P D vw_cl (rf_W ra ca N O (sp_u Z 18 0 ((Z 18 0) + d)) B) H := hP
      have eZ : zm_adv Z d = sp_u Z 18 0 ((Z 18 0) + d) := by simp [zm_adv, Int64.not_lt.mpr h3, h20]
      rw [← eZ] at hP
      have lp : ∀ (n : Nat) (M : sp_N) (k : Nat) (ls : Array Slot) (H : Heap) (locs : List Loc), (n + k = 160) → (sp_oka O (zm_adv Z d) n M) → (sp_av (zm_adv Z d) n M = sp_av (zm_adv Z d) 160 N) → (sp_ac (zm_adv Z d) n M + k = sp_ac (zm_adv Z d) 160 N) →  va_P D vw_cl (rf_W ra ca M O (zm_adv Z d) B) H → va_S (rf_A ra) s.heap H locs → lv_has ls 5 [(0, .ref (ra 0)), (3, .int (nI k)), (4, .int (bd_o (sp_d M (zm_adv Z d) (M 6 0))))] → W p l e (headSpec (Cond.code my_M_advance cd_M_advance 5 (some .int) :: bg_tbl) ({ frames := 1, cells := 0, slots := 0, locals := 22 })).room s m ([.ref (ra 0), .long d] : List Value).toArray below meth c H locs 0 0 (MQ below (va_Qi (fun r (_ : Unit) => r = am_adv N Z d) (fun _ uu => rf_U D ra ca (nm_adv N Z d) O (zm_adv Z d) B uu) (rf_A ra)) ([.ref (ra 0), .long d] : List Value).toArray s 0 0 (rf_A ra)) (F0 m 46 ls []) := by
        intro n
        induction n with
        | zero =>
          intro M k ls H locs hk hok he1 he2 hP hS hl
          have hM6 : M 6 0 ≤ 160 := (sp_oka_Bd hok).2.2.2.2.2.2.1
          refine lv_iload hx hb dd_M_advance_46 (lv_at hl 2 rfl) ?_
          refine bq_olt (tgt := 77) hx hb (fun z hz => by have h9 := sp_d_lt hz; omega) dd_M_advance_48 rfl (fun h48 => ?_) (fun h48 => ?_)
          · have h9ac : sp_ac (zm_adv Z d) 0 M = 0 := rfl
            have h9av : sp_av (zm_adv Z d) 0 M = M := rfl
            refine lv_iload_n hx hb dd_M_advance_77 rfl (lv_at hl 1 rfl) ?_
            have eN : nm_adv N Z d = M := by rw [nm_adv, if_neg (Int64.not_lt.mpr h3), ← he1, h9av]
            exact W.iret hx hb hr (fun tt htt hWW => ⟨⟨_, (), rfl, (by rw [am_adv, if_neg (Int64.not_lt.mpr h3), ← he2, h9ac]; simp), by rw [htt, eN]; exact hP, va_K.moved hWW.alike hK⟩, hS.F htt⟩) hS.2.2 dd_M_advance_78
          · obtain ⟨t, ht9⟩ := bd_ne h48
            have ht8 := sp_d_lt ht9
            have hl : lv_has ls 5 [(0, .ref (ra 0)), (3, .int (nI k)), (4, .int (nI t))] := by rw [ht9] at hl; exact hl
            refine lv_iload_n hx hb dd_M_advance_51 rfl (lv_at hl 1 rfl) ?_
            refine lv_sipush (v := nI 160) hx hb dd_M_advance_52 (by decide) ?_
            refine bq_ge (tgt := 77) hx hb (by omega) (by decide) dd_M_advance_55 rfl (fun h55 => ?_) (fun h55 => ?_)
            · refine lv_iload_n hx hb dd_M_advance_77 rfl (lv_at hl 1 rfl) ?_
              have eN : nm_adv N Z d = M := by rw [nm_adv, if_neg (Int64.not_lt.mpr h3), ← he1, sp_av]
              exact W.iret hx hb hr (fun tt htt hWW => ⟨⟨_, (), rfl, (by rw [am_adv, if_neg (Int64.not_lt.mpr h3), ← he2]; simp [sp_ac]), by rw [htt, eN]; exact hP, va_K.moved hWW.alike hK⟩, hS.F htt⟩) hS.2.2 dd_M_advance_78
            · exact absurd h55 (by omega)
        | succ n ih =>
          intro M k ls H locs hk hok he1 he2 hP hS hl
          have hM6 : M 6 0 ≤ 160 := (sp_oka_Bd hok).2.2.2.2.2.2.1
          refine lv_iload hx hb dd_M_advance_46 (lv_at hl 2 rfl) ?_
          refine bq_olt (tgt := 77) hx hb (fun z hz => by have h9 := sp_d_lt hz; omega) dd_M_advance_48 rfl (fun h48 => ?_) (fun h48 => ?_)
          · have h9ac : sp_ac (zm_adv Z d) (n + 1) M = 0 := by rw [sp_ac, h48]
            have h9av : sp_av (zm_adv Z d) (n + 1) M = M := by rw [sp_av, h48]
            refine lv_iload_n hx hb dd_M_advance_77 rfl (lv_at hl 1 rfl) ?_
            have eN : nm_adv N Z d = M := by rw [nm_adv, if_neg (Int64.not_lt.mpr h3), ← he1, h9av]
            exact W.iret hx hb hr (fun tt htt hWW => ⟨⟨_, (), rfl, (by rw [am_adv, if_neg (Int64.not_lt.mpr h3), ← he2, h9ac]; simp), by rw [htt, eN]; exact hP, va_K.moved hWW.alike hK⟩, hS.F htt⟩) hS.2.2 dd_M_advance_78
          · obtain ⟨t, ht9⟩ := bd_ne h48
            have ht8 := sp_d_lt ht9
            have hl : lv_has ls 5 [(0, .ref (ra 0)), (3, .int (nI k)), (4, .int (nI t))] := by rw [ht9] at hl; exact hl
            refine lv_iload_n hx hb dd_M_advance_51 rfl (lv_at hl 1 rfl) ?_
            refine lv_sipush (v := nI 160) hx hb dd_M_advance_52 (by decide) ?_
            refine bq_ge (tgt := 77) hx hb (by omega) (by decide) dd_M_advance_55 rfl (fun h55 => ?_) (fun h55 => ?_)
            · exact absurd h55 (by omega)
            · refine lv_aload_n hx hb dd_M_advance_58 rfl (lv_at hl 0 rfl) ?_
              refine lv_iload hx hb dd_M_advance_59 (lv_at hl 2 rfl) ?_
              refine rf_callwv (As := [.int (nI t)]) (rest := []) ⟨hx, hb, hml, hown, hts⟩ (rc_line l D ra ca hJ M O (zm_adv Z d) B t (by omega)) (bg_cwV 1 hts tw_ml_M_95 tw_im_M_line tw_se_M_line tw_in_M tw_co_M_line rfl rfl th_M_line ⟨Nat.le_of_ble_eq_true rfl, Nat.le_of_ble_eq_true rfl⟩) hK hP hS rfl hl.1 rfl (by decide) dd_M_advance_61 ⟨Nat.zero_le _, Nat.zero_le _⟩ (fun H locs hP hS => ?_)
              refine lv_iload_n hx hb dd_M_advance_64 rfl (lv_at hl 1 rfl) ?_
              refine lv_iconst (v := nI 1) hx hb dd_M_advance_65 (by decide) ?_
              refine lv_iadd hx hb dd_M_advance_66 ?_
              rw [nI_add]
              refine lv_istore_n hx hb dd_M_advance_67 rfl hl (by decide) rfl (fun ls hl => ?_)
              have hl : lv_has ls 5 [(3, .int (nI (k + 1))), (0, .ref (ra 0)), (4, .int (nI t))] := hl
              refine lv_aload_n hx hb dd_M_advance_68 rfl (lv_at hl 1 rfl) ?_
              refine rf_calli (As := []) (rest := []) (v := bd_o (sp_d (sp_L M t) (zm_adv Z d) ((sp_L M t) 6 0))) ⟨hx, hb, hml, hown, hts⟩ (rc_due l D ra ca (sp_L M t) O (zm_adv Z d) B (sp_oka_Bd (hok.2 _ ht9))) (bg_cwV 0 hts tw_ml_M_137 tw_im_M_due tw_se_M_due tw_in_M tw_co_M_due rfl rfl th_M_due ⟨Nat.le_of_ble_eq_true rfl, Nat.le_of_ble_eq_true rfl⟩) hK hP rfl hl.1 rfl (by decide) dd_M_advance_69 ⟨Nat.zero_le _, Nat.zero_le _⟩ ?_
              refine lv_istore hx hb dd_M_advance_72 hl (by decide) rfl (fun ls hl => ?_)
              have hl : lv_has ls 5 [(4, .int (bd_o (sp_d (sp_L M t) (zm_adv Z d) ((sp_L M t) 6 0)))), (3, .int (nI (k + 1))), (0, .ref (ra 0))] := hl
              refine lv_goto (tgt := 46) hx hb dd_M_advance_74 rfl ?_
              exact ih (sp_L M t) (k + 1) ls H locs (by omega) (hok.2 _ ht9) (by rw [← he1, sp_av, ht9]) (by rw [← he2, sp_ac, ht9]; simp only []; omega) hP hS (lv_sub hl [2, 1, 0] rfl)
      refine lv_iconst (v := nI 0) hx hb dd_M_advance_38 (by decide) ?_
      refine lv_istore_n hx hb dd_M_advance_39 rfl hl (by decide) rfl (fun ls hl => ?_)
      have hl : lv_has ls 5 [(3, .int (nI 0)), (0, .ref (ra 0)), (1, .long d)] := hl
      refine lv_aload_n hx hb dd_M_advance_40 rfl (lv_at hl 1 rfl) ?_
      refine rf_calli (As := []) (rest := []) (v := bd_o (sp_d N (zm_adv Z d) (N 6 0))) ⟨hx, hb, hml, hown, hts⟩ (rc_due l D ra ca N O (zm_adv Z d) B (sp_oka_Bd hok0)) (bg_cwV 0 hts tw_ml_M_137 tw_im_M_due tw_se_M_due tw_in_M tw_co_M_due rfl rfl th_M_due ⟨Nat.le_of_ble_eq_true rfl, Nat.le_of_ble_eq_true rfl⟩) hK hP rfl hl.1 rfl (by decide) dd_M_advance_41 ⟨Nat.zero_le _, Nat.zero_le _⟩ ?_
      refine lv_istore hx hb dd_M_advance_44 hl (by decide) rfl (fun ls hl => ?_)
      have hl : lv_has ls 5 [(4, .int (bd_o (sp_d N (zm_adv Z d) (N 6 0)))), (3, .int (nI 0)), (0, .ref (ra 0)), (1, .long d)] := hl
      exact lp 160 N 0 ls _ _ (by omega) hok0 rfl rfl hP hS (lv_sub hl [2, 1, 0] rfl)
    · refine lv_ldc2 (v := 9223372036854775806) hx hb hown (hts _ tw_k2_M_135) dd_M_advance_23 ?_
      refine lv_goto (tgt := 35) hx hb dd_M_advance_26 rfl ?_
      refine va_put (D := D) (ci := 4) (v := .long (9223372036854775806)) (ty := .long) (C := rn_M) (T := ft_M) (N := 19) hx hb hts tw_fs_M fy_M fo_M fn_M hown hK hP (rf_D hJ ca N O Z B) hS 0 rfl rfl 18 (by decide) (hts _ tw_fl_M_111) (fun _ h9 => h9) rfl (by decide +kernel) rfl rfl (Nat.le_of_ble_eq_true rfl) dd_M_advance_35 (fun H locs hP _ hS => ?_)
      have hP : va_P D vw_cl (rf_W ra ca N O (sp_u Z 18 0 9223372036854775806) B) H := hP
      have eZ : zm_adv Z d = sp_u Z 18 0 9223372036854775806 := by simp [zm_adv, Int64.not_lt.mpr h3, Int64.not_le.mpr h20]
      rw [← eZ] at hP
      have lp : ∀ (n : Nat) (M : sp_N) (k : Nat) (ls : Array Slot) (H : Heap) (locs : List Loc), (n + k = 160) → (sp_oka O (zm_adv Z d) n M) → (sp_av (zm_adv Z d) n M = sp_av (zm_adv Z d) 160 N) → (sp_ac (zm_adv Z d) n M + k = sp_ac (zm_adv Z d) 160 N) →  va_P D vw_cl (rf_W ra ca M O (zm_adv Z d) B) H → va_S (rf_A ra) s.heap H locs → lv_has ls 5 [(0, .ref (ra 0)), (3, .int (nI k)), (4, .int (bd_o (sp_d M (zm_adv Z d) (M 6 0))))] → W p l e (headSpec (Cond.code my_M_advance cd_M_advance 5 (some .int) :: bg_tbl) ({ frames := 1, cells := 0, slots := 0, locals := 22 })).room s m ([.ref (ra 0), .long d] : List Value).toArray below meth c H locs 0 0 (MQ below (va_Qi (fun r (_ : Unit) => r = am_adv N Z d) (fun _ uu => rf_U D ra ca (nm_adv N Z d) O (zm_adv Z d) B uu) (rf_A ra)) ([.ref (ra 0), .long d] : List Value).toArray s 0 0 (rf_A ra)) (F0 m 46 ls []) := by
        intro n
        induction n with
        | zero =>
          intro M k ls H locs hk hok he1 he2 hP hS hl
          have hM6 : M 6 0 ≤ 160 := (sp_oka_Bd hok).2.2.2.2.2.2.1
          refine lv_iload hx hb dd_M_advance_46 (lv_at hl 2 rfl) ?_
          refine bq_olt (tgt := 77) hx hb (fun z hz => by have h9 := sp_d_lt hz; omega) dd_M_advance_48 rfl (fun h48 => ?_) (fun h48 => ?_)
          · have h9ac : sp_ac (zm_adv Z d) 0 M = 0 := rfl
            have h9av : sp_av (zm_adv Z d) 0 M = M := rfl
            refine lv_iload_n hx hb dd_M_advance_77 rfl (lv_at hl 1 rfl) ?_
            have eN : nm_adv N Z d = M := by rw [nm_adv, if_neg (Int64.not_lt.mpr h3), ← he1, h9av]
            exact W.iret hx hb hr (fun tt htt hWW => ⟨⟨_, (), rfl, (by rw [am_adv, if_neg (Int64.not_lt.mpr h3), ← he2, h9ac]; simp), by rw [htt, eN]; exact hP, va_K.moved hWW.alike hK⟩, hS.F htt⟩) hS.2.2 dd_M_advance_78
          · obtain ⟨t, ht9⟩ := bd_ne h48
            have ht8 := sp_d_lt ht9
            have hl : lv_has ls 5 [(0, .ref (ra 0)), (3, .int (nI k)), (4, .int (nI t))] := by rw [ht9] at hl; exact hl
            refine lv_iload_n hx hb dd_M_advance_51 rfl (lv_at hl 1 rfl) ?_
            refine lv_sipush (v := nI 160) hx hb dd_M_advance_52 (by decide) ?_
            refine bq_ge (tgt := 77) hx hb (by omega) (by decide) dd_M_advance_55 rfl (fun h55 => ?_) (fun h55 => ?_)
            · refine lv_iload_n hx hb dd_M_advance_77 rfl (lv_at hl 1 rfl) ?_
              have eN : nm_adv N Z d = M := by rw [nm_adv, if_neg (Int64.not_lt.mpr h3), ← he1, sp_av]
              exact W.iret hx hb hr (fun tt htt hWW => ⟨⟨_, (), rfl, (by rw [am_adv, if_neg (Int64.not_lt.mpr h3), ← he2]; simp [sp_ac]), by rw [htt, eN]; exact hP, va_K.moved hWW.alike hK⟩, hS.F htt⟩) hS.2.2 dd_M_advance_78
            · exact absurd h55 (by omega)
        | succ n ih =>
          intro M k ls H locs hk hok he1 he2 hP hS hl
          have hM6 : M 6 0 ≤ 160 := (sp_oka_Bd hok).2.2.2.2.2.2.1
          refine lv_iload hx hb dd_M_advance_46 (lv_at hl 2 rfl) ?_
          refine bq_olt (tgt := 77) hx hb (fun z hz => by have h9 := sp_d_lt hz; omega) dd_M_advance_48 rfl (fun h48 => ?_) (fun h48 => ?_)
          · have h9ac : sp_ac (zm_adv Z d) (n + 1) M = 0 := by rw [sp_ac, h48]
            have h9av : sp_av (zm_adv Z d) (n + 1) M = M := by rw [sp_av, h48]
            refine lv_iload_n hx hb dd_M_advance_77 rfl (lv_at hl 1 rfl) ?_
            have eN : nm_adv N Z d = M := by rw [nm_adv, if_neg (Int64.not_lt.mpr h3), ← he1, h9av]
            exact W.iret hx hb hr (fun tt htt hWW => ⟨⟨_, (), rfl, (by rw [am_adv, if_neg (Int64.not_lt.mpr h3), ← he2, h9ac]; simp), by rw [htt, eN]; exact hP, va_K.moved hWW.alike hK⟩, hS.F htt⟩) hS.2.2 dd_M_advance_78
          · obtain ⟨t, ht9⟩ := bd_ne h48
            have ht8 := sp_d_lt ht9
            have hl : lv_has ls 5 [(0, .ref (ra 0)), (3, .int (nI k)), (4, .int (nI t))] := by rw [ht9] at hl; exact hl
            refine lv_iload_n hx hb dd_M_advance_51 rfl (lv_at hl 1 rfl) ?_
            refine lv_sipush (v := nI 160) hx hb dd_M_advance_52 (by decide) ?_
            refine bq_ge (tgt := 77) hx hb (by omega) (by decide) dd_M_advance_55 rfl (fun h55 => ?_) (fun h55 => ?_)
            · exact absurd h55 (by omega)
            · refine lv_aload_n hx hb dd_M_advance_58 rfl (lv_at hl 0 rfl) ?_
              refine lv_iload hx hb dd_M_advance_59 (lv_at hl 2 rfl) ?_
              refine rf_callwv (As := [.int (nI t)]) (rest := []) ⟨hx, hb, hml, hown, hts⟩ (rc_line l D ra ca hJ M O (zm_adv Z d) B t (by omega)) (bg_cwV 1 hts tw_ml_M_95 tw_im_M_line tw_se_M_line tw_in_M tw_co_M_line rfl rfl th_M_line ⟨Nat.le_of_ble_eq_true rfl, Nat.le_of_ble_eq_true rfl⟩) hK hP hS rfl hl.1 rfl (by decide) dd_M_advance_61 ⟨Nat.zero_le _, Nat.zero_le _⟩ (fun H locs hP hS => ?_)
              refine lv_iload_n hx hb dd_M_advance_64 rfl (lv_at hl 1 rfl) ?_
              refine lv_iconst (v := nI 1) hx hb dd_M_advance_65 (by decide) ?_
              refine lv_iadd hx hb dd_M_advance_66 ?_
              rw [nI_add]
              refine lv_istore_n hx hb dd_M_advance_67 rfl hl (by decide) rfl (fun ls hl => ?_)
              have hl : lv_has ls 5 [(3, .int (nI (k + 1))), (0, .ref (ra 0)), (4, .int (nI t))] := hl
              refine lv_aload_n hx hb dd_M_advance_68 rfl (lv_at hl 1 rfl) ?_
              refine rf_calli (As := []) (rest := []) (v := bd_o (sp_d (sp_L M t) (zm_adv Z d) ((sp_L M t) 6 0))) ⟨hx, hb, hml, hown, hts⟩ (rc_due l D ra ca (sp_L M t) O (zm_adv Z d) B (sp_oka_Bd (hok.2 _ ht9))) (bg_cwV 0 hts tw_ml_M_137 tw_im_M_due tw_se_M_due tw_in_M tw_co_M_due rfl rfl th_M_due ⟨Nat.le_of_ble_eq_true rfl, Nat.le_of_ble_eq_true rfl⟩) hK hP rfl hl.1 rfl (by decide) dd_M_advance_69 ⟨Nat.zero_le _, Nat.zero_le _⟩ ?_
              refine lv_istore hx hb dd_M_advance_72 hl (by decide) rfl (fun ls hl => ?_)
              have hl : lv_has ls 5 [(4, .int (bd_o (sp_d (sp_L M t) (zm_adv Z d) ((sp_L M t) 6 0)))), (3, .int (nI (k + 1))), (0, .ref (ra 0))] := hl
              refine lv_goto (tgt := 46) hx hb dd_M_advance_74 rfl ?_
              exact ih (sp_L M t) (k + 1) ls H locs (by omega) (hok.2 _ ht9) (by rw [← he1, sp_av, ht9]) (by rw [← he2, sp_ac, ht9]; simp only []; omega) hP hS (lv_sub hl [2, 1, 0] rfl)
      refine lv_iconst (v := nI 0) hx hb dd_M_advance_38 (by decide) ?_
      refine lv_istore_n hx hb dd_M_advance_39 rfl hl (by decide) rfl (fun ls hl => ?_)
      have hl : lv_has ls 5 [(3, .int (nI 0)), (0, .ref (ra 0)), (1, .long d)] := hl
      refine lv_aload_n hx hb dd_M_advance_40 rfl (lv_at hl 1 rfl) ?_
      refine rf_calli (As := []) (rest := []) (v := bd_o (sp_d N (zm_adv Z d) (N 6 0))) ⟨hx, hb, hml, hown, hts⟩ (rc_due l D ra ca N O (zm_adv Z d) B (sp_oka_Bd hok0)) (bg_cwV 0 hts tw_ml_M_137 tw_im_M_due tw_se_M_due tw_in_M tw_co_M_due rfl rfl th_M_due ⟨Nat.le_of_ble_eq_true rfl, Nat.le_of_ble_eq_true rfl⟩) hK hP rfl hl.1 rfl (by decide) dd_M_advance_41 ⟨Nat.zero_le _, Nat.zero_le _⟩ ?_
      refine lv_istore hx hb dd_M_advance_44 hl (by decide) rfl (fun ls hl => ?_)
      have hl : lv_has ls 5 [(4, .int (bd_o (sp_d N (zm_adv Z d) (N 6 0)))), (3, .int (nI 0)), (0, .ref (ra 0)), (1, .long d)] := hl
      exact lp 160 N 0 ls _ _ (by omega) hok0 rfl rfl hP hS (lv_sub hl [2, 1, 0] rfl)
  · refine lv_bipush (v := -9) hx hb dd_M_advance_6 (by decide) ?_
    have eN : nm_adv N Z d = N := by rw [nm_adv, if_pos h3]
    have eZ : zm_adv Z d = Z := by rw [zm_adv, if_pos h3]
    exact W.iret hx hb hr (fun tt htt hWW => ⟨⟨_, (), rfl, (by rw [am_adv, if_pos h3]), by rw [htt, eN, eZ]; exact hP, va_K.moved hWW.alike hK⟩, hS.F htt⟩) hS.2.2 dd_M_advance_8

set_option maxHeartbeats 4000000 in
set_option maxRecDepth 100000 in
theorem rc_now (l : Launch) (D : va_G) (ra : Nat → Nat) (ca : Nat → ClassId) (N : sp_N) (O : sp_O) (Z : sp_Z) (B : sp_B) : Met l my_M_now (Cond.code my_M_now cd_M_now 1 (some .long) :: bg_tbl) ({ frames := 0, cells := 0, slots := 0, locals := 0 }) (va_Pc [.ref (ra 0)] (rf_U D ra ca N O Z B)) (vp_Sl (fun r => r = Z 18 0)) 0 0 (fun _ => False) := by
  refine Met.ofW (cc := cd_M_now) (maxL := 1) (ret := (some .long)) (by decide) rfl ?_
  intro p e s m args below meth c s₁ BB hml hv
  obtain ⟨rfl, hP, hK⟩ := hv
  have hx := BB.exec
  have hb := BB.bytes
  have hr := BB.returns
  have hts : ∀ w ∈ bg_tbl, w.before ([.ref (ra 0)] : List Value).toArray s = true := fun w h => atoms_spec (ws := (Cond.code my_M_now cd_M_now 1 (some .long) :: bg_tbl)) BB.pre w (List.mem_cons_of_mem _ h)
  have hown : s.vm.findClass rn_M = some m.cls := findClass_of_methodNamed BB.named
  have hlocks := BB.notSynchronized
  have hl := lv_entry ([.ref (ra 0)]) (n := 1) (Nat.le_of_ble_eq_true rfl)
  rw [lg_entry_eq]
  generalize (lg_sl ([.ref (ra 0)]) ++ List.replicate (1 - (lg_sl ([.ref (ra 0)])).length) Slot.unset).toArray = ls at hl ⊢
  have hl : lv_has ls 1 [(0, .ref (ra 0))] := hl
  refine lv_aload_n hx hb dd_M_now_0 rfl (lv_at hl 0 rfl) ?_
  refine va_get (D := D) (ci := 4) (v := .long (Z 18 0)) (C := rn_M) (T := ft_M) (N := 19) hx hb hts tw_fs_M hown hK hP 0 rfl rfl 18 (by decide) (hts _ tw_fl_M_111) (fun _ h9 => h9) rfl dd_M_now_1 ?_
  exact W.lret hx hb hr (fun tt htt hWW => ⟨_, rfl, rfl, htt⟩) (fun _ h => by cases h) dd_M_now_4
end
section
/-! Part 20: the class's world. Keys: 0 the object, 1 to 3 its arrays (queues, blocks, groups), 4 + g a group, 8 + j a queue, 20 + t a block. M: numbers, X: booleans, F: references (as keys), G: longs, each by key and slot; ad: the address of a key; ks: the keys that there are. -/
abbrev cw_fM (ad : Nat → Nat) (mm : Nat → Nat) (ff : Nat → Option Nat) (gg : Nat → Int64) : List Value := [.int (nI (mm 0)), va_rf ((ff 1).map ad), va_rf ((ff 2).map ad), va_rf ((ff 3).map ad), .int (nI (mm 4)), .int (nI (mm 5)), .int (nI (mm 6)), .int (nI (mm 7)), .long (gg 8)]
abbrev cw_fG (mm : Nat → Nat) : List Value := [.int (nI (mm 0)), .int (nI (mm 1))]
abbrev cw_fQ (ad : Nat → Nat) (mm : Nat → Nat) (xx : Nat → Bool) (ff : Nat → Option Nat) : List Value := [.int (nI (mm 0)), .int (nI (mm 1)), va_rf ((ff 2).map ad), .int (nI (mm 3)), va_rf ((ff 4).map ad), va_rf ((ff 5).map ad), .int (nI (mm 6)), .int (nI (mm 7)), .int (nI (mm 8)), .int (bd_b (xx 9))]
abbrev cw_fB (ad : Nat → Nat) (mm : Nat → Nat) (xx : Nat → Bool) (ff : Nat → Option Nat) (gg : Nat → Int64) : List Value := [.int (nI (mm 0)), va_rf ((ff 1).map ad), .int (bd_b (xx 2)), .int (nI (mm 3)), .int (bd_b (xx 4)), va_rf ((ff 5).map ad), va_rf ((ff 6).map ad), va_rf ((ff 7).map ad), .long (gg 8), .int (nI (mm 9)), va_rf ((ff 10).map ad)]
def cw_n (k : Nat) : Nat := if k = 1 then 12 else if k = 2 then 160 else 4
theorem cw_n_lt (k : Nat) : cw_n k < 2 ^ 31 := by
  unfold cw_n
  by_cases h1 : k = 1
  · simp [h1]
  · by_cases h2 : k = 2 <;> simp [h1, h2]
/-- the cell of a key, out of its own row of each map -/
def cw_C (ad : Nat → Nat) (ca : Nat → ClassId) (k : Nat) (mm : Nat → Nat) (xx : Nat → Bool) (ff : Nat → Option Nat) (gg : Nat → Int64) : va_E :=
  if k = 0 then .inr (3, cw_fM ad mm ff gg)
  else if k < 4 then .inl (ca k, cw_n k, .inr (.inr (.inr (.inr (fun j => (ff j).map ad)))))
  else if k < 8 then .inr (1, cw_fG mm)
  else if k < 20 then .inr (2, cw_fQ ad mm xx ff)
  else .inr (0, cw_fB ad mm xx ff gg)
def cw_W (ks : List Nat) (ad : Nat → Nat) (ca : Nat → ClassId) (M : sp_N) (X : sp_B) (F : sp_O) (G : sp_Z) : va_W := ks.map (fun k => (ad k, cw_C ad ca k (M k) (X k) (F k) (G k)))
theorem cw_C0 (ad : Nat → Nat) (ca : Nat → ClassId) (mm : Nat → Nat) (xx : Nat → Bool) (ff : Nat → Option Nat) (gg : Nat → Int64) : cw_C ad ca 0 mm xx ff gg = .inr (3, cw_fM ad mm ff gg) := rfl
theorem cw_CA {k : Nat} (h0 : 0 < k) (h : k < 4) (ad : Nat → Nat) (ca : Nat → ClassId) (mm : Nat → Nat) (xx : Nat → Bool) (ff : Nat → Option Nat) (gg : Nat → Int64) : cw_C ad ca k mm xx ff gg = .inl (ca k, cw_n k, .inr (.inr (.inr (.inr (fun j => (ff j).map ad))))) := by
  unfold cw_C
  rw [if_neg (by omega), if_pos h]
theorem cw_CG {g : Nat} (h : g < 4) (ad : Nat → Nat) (ca : Nat → ClassId) (mm : Nat → Nat) (xx : Nat → Bool) (ff : Nat → Option Nat) (gg : Nat → Int64) : cw_C ad ca (4 + g) mm xx ff gg = .inr (1, cw_fG mm) := by
  unfold cw_C
  rw [if_neg (by omega), if_neg (by omega), if_pos (by omega)]
theorem cw_CQ {j : Nat} (h : j < 12) (ad : Nat → Nat) (ca : Nat → ClassId) (mm : Nat → Nat) (xx : Nat → Bool) (ff : Nat → Option Nat) (gg : Nat → Int64) : cw_C ad ca (8 + j) mm xx ff gg = .inr (2, cw_fQ ad mm xx ff) := by
  unfold cw_C
  rw [if_neg (by omega), if_neg (by omega), if_neg (by omega), if_pos (by omega)]
theorem cw_CB (t : Nat) (ad : Nat → Nat) (ca : Nat → ClassId) (mm : Nat → Nat) (xx : Nat → Bool) (ff : Nat → Option Nat) (gg : Nat → Int64) : cw_C ad ca (20 + t) mm xx ff gg = .inr (0, cw_fB ad mm xx ff gg) := by
  unfold cw_C
  rw [if_neg (by omega), if_neg (by omega), if_neg (by omega), if_neg (by omega)]
theorem cw_get {ks : List Nat} {ad : Nat → Nat} {ca : Nat → ClassId} {M : sp_N} {X : sp_B} {F : sp_O} {G : sp_Z} {i k : Nat} (hp : ks[i]? = some k) : (cw_W ks ad ca M X F G)[i]? = some (ad k, cw_C ad ca k (M k) (X k) (F k) (G k)) := by
  unfold cw_W
  rw [List.getElem?_map, hp]
  rfl
theorem cw_set {A : Nat → Prop} {ks : List Nat} {ad : Nat → Nat} {ca : Nat → ClassId} {M M' : sp_N} {X X' : sp_B} {F F' : sp_O} {G G' : sp_Z} {i k : Nat} (hD : va_D A (cw_W ks ad ca M X F G)) (hp : ks[i]? = some k) (hM : ∀ q, q ≠ k → M' q = M q) (hX : ∀ q, q ≠ k → X' q = X q) (hF : ∀ q, q ≠ k → F' q = F q) (hG : ∀ q, q ≠ k → G' q = G q) : (cw_W ks ad ca M X F G).set i (ad k, cw_C ad ca k (M' k) (X' k) (F' k) (G' k)) = cw_W ks ad ca M' X' F' G' := by
  have hl : i < (cw_W ks ad ca M X F G).length := (List.getElem?_eq_some_iff.mp (cw_get hp)).1
  apply List.ext_getElem?
  intro j
  by_cases hj : j = i
  · subst hj
    rw [List.getElem?_set_self hl, cw_get hp]
  · rw [List.getElem?_set_ne (Ne.symm hj)]
    cases hq : ks[j]? with
    | none =>
      unfold cw_W
      rw [List.getElem?_map, List.getElem?_map, hq]
      rfl
    | some q =>
      have hqk : q ≠ k := by
        intro h
        subst h
        exact hj (hD.1 j i _ _ (cw_get hq) (cw_get hp) rfl)
      rw [cw_get hq, cw_get hq, hM q hqk, hX q hqk, hF q hqk, hG q hqk]

abbrev cw_T (ca : Nat → ClassId) : List (ClassId × FieldType) := [(ca 1, .object rn_Q), (ca 2, .object rn_B), (ca 3, .object rn_G)]
def cw_U (D : va_G) (ks : List Nat) (ad : Nat → Nat) (ca : Nat → ClassId) (M : sp_N) (X : sp_B) (F : sp_O) (G : sp_Z) (U : State) : Prop := va_P D vw_cl (cw_W ks ad ca M X F G) U.heap ∧ va_K D vw_cl (cw_T ca) U
theorem cw_blind (D : va_G) (ks : List Nat) (ad : Nat → Nat) (ca : Nat → ClassId) (M : sp_N) (X : sp_B) (F : sp_O) (G : sp_Z) (As : List Value) : FrameBlind (va_Pc As (cw_U D ks ad ca M X F G)) := fun a U g mk q => ⟨q.1, q.2.1, va_K.moved (u := U) (U := U.calling g mk a) (Vm.Alike.refl U.vm) q.2.2⟩
/-- the addresses of the keys are apart -/
def cw_J (ks : List Nat) (ad : Nat → Nat) : Prop := ∀ i j a b : Nat, ks[i]? = some a → ks[j]? = some b → ad a = ad b → i = j
def cw_A (ks : List Nat) (ad : Nat → Nat) : Nat → Prop := fun q => ∃ k, k ∈ ks ∧ q = ad k
theorem cw_key {ks : List Nat} {ad : Nat → Nat} {ca : Nat → ClassId} {M : sp_N} {X : sp_B} {F : sp_O} {G : sp_Z} {i : Nat} {q : Nat × va_E} (h : (cw_W ks ad ca M X F G)[i]? = some q) : ∃ k, ks[i]? = some k ∧ q = (ad k, cw_C ad ca k (M k) (X k) (F k) (G k)) := by
  unfold cw_W at h
  rw [List.getElem?_map] at h
  cases hk : ks[i]? with
  | none => rw [hk] at h; cases h
  | some k => rw [hk] at h; exact ⟨k, rfl, (Option.some.inj h).symm⟩
theorem cw_D {ks : List Nat} {ad : Nat → Nat} (hJ : cw_J ks ad) (ca : Nat → ClassId) (M : sp_N) (X : sp_B) (F : sp_O) (G : sp_Z) : va_D (cw_A ks ad) (cw_W ks ad ca M X F G) := by
  refine ⟨fun i j x y hi hj hxy => ?_, fun k q hk => ?_⟩
  · obtain ⟨a, a1, rfl⟩ := cw_key hi
    obtain ⟨b, b1, rfl⟩ := cw_key hj
    exact hJ i j a b a1 b1 hxy
  · obtain ⟨a, a1, rfl⟩ := cw_key hk
    exact ⟨a, List.mem_of_getElem? a1, rfl⟩
theorem cw_inj {ks : List Nat} {ad : Nat → Nat} (hJ : cw_J ks ad) {a b : Nat} (ha : a ∈ ks) (hb : b ∈ ks) (h : ad a = ad b) : a = b := by
  obtain ⟨i, hi⟩ := List.getElem?_of_mem ha
  obtain ⟨j, hj⟩ := List.getElem?_of_mem hb
  have := hJ i j a b hi hj h
  subst this
  exact Option.some.inj (hi.symm.trans hj)
section CW
variable {p : Program} {l : Launch} {e : Env} {R : Room} {s : State} {m : MethodId} {args : Array Value} {below : List Frame} {meth : Method} {c : Code} {H H0 : Heap} {locs : List Loc} {cells slots : Nat} {Q : State → Prop}
variable {cc bytes : ByteArray} {pc nL maxL index n : Nat} {ls : Array Slot} {rest st0 : List Value} {D : va_G} {ks : List Nat} {ad : Nat → Nat} {ca : Nat → ClassId} {M : sp_N} {X : sp_B} {F : sp_O} {G : sp_Z} {Ts ws : List Cond} {y : MethodName} {ret : Option FieldType} {rm : Room} {As : List Value} {tys : List (ClassId × FieldType)} {A : Nat → Prop} {own C : String} {T : u_T} {NF ci k f : Nat} {fs : List Value}
/-- a field is read -/
theorem cw_get1 (hx : p.tables.exec = Jvm.exec) (hb : c.code = cc) (hts : ∀ w ∈ Ts, w.before args s = true) (hin : ∀ w ∈ u_ws C T NF, w ∈ Ts) (hown : s.vm.findClass own = some m.cls) (hK : va_K D vw_cl tys s) (hP : va_P D vw_cl (cw_W ks ad ca M X F G) H) (hk : k ∈ ks) (hE : cw_C ad ca k (M k) (X k) (F k) (G k) = .inr (ci, fs)) (hc : vw_cl[ci]? = some (C, T, NF)) (f : Nat) (hf : f < NF) (hlink : (Cond.fieldLink own index C (T f).2.1 (T f).2.2.1).before args s = true) (hown2 : (T f).1 = C) {v : Value} (hv : fs[f]? = some v) (hdg : decode cc pc = .ok (.getfield index, 3))
    (kk : W p l e R s m args below meth c H locs cells slots Q (F0 m (pc + 3) ls (v :: rest))) : W p l e R s m args below meth c H locs cells slots Q (F0 m pc ls (.ref (ad k) :: rest)) := by
  obtain ⟨i, hi⟩ := List.getElem?_of_mem hk
  exact va_get hx hb hts hin hown hK hP i ((cw_get hi).trans (by rw [hE])) hc f hf hlink (fun x h => by rw [hown2] at h; exact h) hv hdg kk
/-- a reference that may be null is read -/
theorem cw_getr (hx : p.tables.exec = Jvm.exec) (hb : c.code = cc) (hts : ∀ w ∈ Ts, w.before args s = true) (hin : ∀ w ∈ u_ws C T NF, w ∈ Ts) (hown : s.vm.findClass own = some m.cls) (hK : va_K D vw_cl tys s) (hP : va_P D vw_cl (cw_W ks ad ca M X F G) H) (hk : k ∈ ks) (hE : cw_C ad ca k (M k) (X k) (F k) (G k) = .inr (ci, fs)) (hc : vw_cl[ci]? = some (C, T, NF)) (f : Nat) (hf : f < NF) (hlink : (Cond.fieldLink own index C (T f).2.1 (T f).2.2.1).before args s = true) (hown2 : (T f).1 = C) (hv : fs[f]? = some (va_rf ((F k f).map ad))) (hdg : decode cc pc = .ok (.getfield index, 3))
    (kn : F k f = none → W p l e R s m args below meth c H locs cells slots Q (F0 m (pc + 3) ls (.null :: rest))) (kr : ∀ k', F k f = some k' → W p l e R s m args below meth c H locs cells slots Q (F0 m (pc + 3) ls (.ref (ad k') :: rest))) : W p l e R s m args below meth c H locs cells slots Q (F0 m pc ls (.ref (ad k) :: rest)) := by
  refine cw_get1 hx hb hts hin hown hK hP hk hE hc f hf hlink hown2 hv hdg ?_
  cases h : F k f with
  | none => exact kn h
  | some k' => exact kr k' h
/-- a reference that is known is read -/
theorem cw_getk (hx : p.tables.exec = Jvm.exec) (hb : c.code = cc) (hts : ∀ w ∈ Ts, w.before args s = true) (hin : ∀ w ∈ u_ws C T NF, w ∈ Ts) (hown : s.vm.findClass own = some m.cls) (hK : va_K D vw_cl tys s) (hP : va_P D vw_cl (cw_W ks ad ca M X F G) H) (hk : k ∈ ks) (hE : cw_C ad ca k (M k) (X k) (F k) (G k) = .inr (ci, fs)) (hc : vw_cl[ci]? = some (C, T, NF)) (f : Nat) (hf : f < NF) (hlink : (Cond.fieldLink own index C (T f).2.1 (T f).2.2.1).before args s = true) (hown2 : (T f).1 = C) (hv : fs[f]? = some (va_rf ((F k f).map ad))) {k' : Nat} (hFk : F k f = some k') (hdg : decode cc pc = .ok (.getfield index, 3))
    (kk : W p l e R s m args below meth c H locs cells slots Q (F0 m (pc + 3) ls (.ref (ad k') :: rest))) : W p l e R s m args below meth c H locs cells slots Q (F0 m pc ls (.ref (ad k) :: rest)) :=
  cw_getr hx hb hts hin hown hK hP hk hE hc f hf hlink hown2 hv hdg (fun h => by rw [hFk] at h; cases h) (fun k9 h => by rw [hFk] at h; cases h; exact kk)
theorem cw_getn (hx : p.tables.exec = Jvm.exec) (hb : c.code = cc) (hts : ∀ w ∈ Ts, w.before args s = true) (hin : ∀ w ∈ u_ws C T NF, w ∈ Ts) (hown : s.vm.findClass own = some m.cls) (hK : va_K D vw_cl tys s) (hP : va_P D vw_cl (cw_W ks ad ca M X F G) H) (hk : k ∈ ks) (hE : cw_C ad ca k (M k) (X k) (F k) (G k) = .inr (ci, fs)) (hc : vw_cl[ci]? = some (C, T, NF)) (f : Nat) (hf : f < NF) (hlink : (Cond.fieldLink own index C (T f).2.1 (T f).2.2.1).before args s = true) (hown2 : (T f).1 = C) (hv : fs[f]? = some (va_rf ((F k f).map ad))) (hFk : F k f = none) (hdg : decode cc pc = .ok (.getfield index, 3))
    (kk : W p l e R s m args below meth c H locs cells slots Q (F0 m (pc + 3) ls (.null :: rest))) : W p l e R s m args below meth c H locs cells slots Q (F0 m pc ls (.ref (ad k) :: rest)) :=
  cw_getr hx hb hts hin hown hK hP hk hE hc f hf hlink hown2 hv hdg (fun _ => kk) (fun k9 h => by rw [hFk] at h; cases h)
/-- a field is written: what the cell is then, by the maps that came of it -/
theorem cw_put1 (hx : p.tables.exec = Jvm.exec) (hb : c.code = cc) (hts : ∀ w ∈ Ts, w.before args s = true) (hin : ∀ w ∈ u_ws C T NF, w ∈ Ts) (ty0 : Nat → FieldType) (hty : ∀ k, k < NF → parseFieldDescriptor (T k).2.2.1 = some (ty0 k)) (hnm : ∀ a, a < NF → ∀ b, b < NF → a ≠ b → (T a).2.1 ≠ (T b).2.1) (hown : s.vm.findClass own = some m.cls) (hK : va_K D vw_cl tys s) (hP : va_P D vw_cl (cw_W ks ad ca M X F G) H) (hD : va_D A (cw_W ks ad ca M X F G)) (hS : va_S A H0 H locs) (hk : k ∈ ks) (hE : cw_C ad ca k (M k) (X k) (F k) (G k) = .inr (ci, fs)) (hc : vw_cl[ci]? = some (C, T, NF)) (f : Nat) (hf : f < NF) (hlink : (Cond.fieldLink own index C (T f).2.1 (T f).2.2.1).before args s = true) (hown2 : (T f).1 = C) (hfin : (T f).2.2.2 = false) {ty : FieldType} {v : Value} (hd : parseFieldDescriptor (T f).2.2.1 = some ty) (hn : narrow ty v = v) (hfit : fits ty v = true) (hl : f < fs.length) {M' : sp_N} {X' : sp_B} {F' : sp_O} {G' : sp_Z} (hM : ∀ q, q ≠ k → M' q = M q) (hX : ∀ q, q ≠ k → X' q = X q) (hF : ∀ q, q ≠ k → F' q = F q) (hG : ∀ q, q ≠ k → G' q = G q) (hE' : cw_C ad ca k (M' k) (X' k) (F' k) (G' k) = .inr (ci, fs.set f v)) (hdg : decode cc pc = .ok (.putfield index, 3))
    (kk : ∀ (H1 : Heap) (locs1 : List Loc), va_P D vw_cl (cw_W ks ad ca M' X' F' G') H1 → va_S A H0 H1 locs1 → W p l e R s m args below meth c H1 locs1 cells slots Q (F0 m (pc + 3) ls rest)) : W p l e R s m args below meth c H locs cells slots Q (F0 m pc ls (v :: .ref (ad k) :: rest)) := by
  obtain ⟨i, hi⟩ := List.getElem?_of_mem hk
  refine va_put hx hb hts hin ty0 hty hnm hown hK hP hD hS i ((cw_get hi).trans (by rw [hE])) hc f hf hlink (fun x h => by rw [hown2] at h; exact h) hfin hd hn hfit hl hdg (fun H1 locs1 h1 _ h3 => ?_)
  rw [← hE', cw_set hD hi hM hX hF hG] at h1
  exact kk H1 locs1 h1 h3
theorem cw_recv (hK : va_K D vw_cl tys s) (hP : va_P D vw_cl (cw_W ks ad ca M X F G) H) (hk : k ∈ ks) (hE : cw_C ad ca k (M k) (X k) (F k) (G k) = .inr (ci, fs)) (hc : vw_cl[ci]? = some (C, T, NF)) : ∃ cell : Cell, H[ad k]? = some cell ∧ cell.vm.isStatics = false ∧ s.vm.findClass C = some cell.cls := by
  obtain ⟨i, hi⟩ := List.getElem?_of_mem hk
  exact va_recv hK hP hc ((cw_get hi).trans (by rw [hE]))
/-- calls of methods that only read -/
theorem cw_calli {v : Int32} (S : CallFix p m c cc nL s args Ts own) (hM : Met l y ws rm (va_Pc (.ref (ad k) :: As) (cw_U D ks ad ca M X F G)) (vp_Si (fun r => r = v)) 0 0 (fun _ => False)) (cw : CallW R s args own C index y bytes maxL ret ws rm 0 0 n) (hK : va_K D vw_cl (cw_T ca) s) (hP : va_P D vw_cl (cw_W ks ad ca M X F G) H) (hk : k ∈ ks) (hE : cw_C ad ca k (M k) (X k) (F k) (G k) = .inr (ci, fs)) (hc : vw_cl[ci]? = some (C, T, NF)) (hn : As.length = n) (hsize : ls.size = nL) (hstack : st0 = As.reverse ++ .ref (ad k) :: rest) (hW : (rest.map fun v => v.category).sum ≤ 8) (hdg : decode cc pc = .ok (.invokevirtual index, 3)) (hf : cells ≤ R.cells ∧ slots ≤ R.slots)
    (kk : W p l e R s m args below meth c H locs cells slots Q (F0 m (pc + 3) ls (.int v :: rest))) : W p l e R s m args below meth c H locs cells slots Q (F0 m pc ls st0) := by
  subst hstack
  exact vp_callSi (W.runV S hM cw ⟨cw_blind D ks ad ca M X F G _, cw_recv hK hP hk hE hc, fun U hU hW => ⟨rfl, by rw [hU]; exact hP, va_K.moved hW.alike hK⟩⟩ rfl hn hsize rfl (lv_room hW) hdg hf) (fun r hr => by subst hr; exact kk)
theorem cw_callq {o : Option Nat} (S : CallFix p m c cc nL s args Ts own) (hM : Met l y ws rm (va_Pc (.ref (ad k) :: As) (cw_U D ks ad ca M X F G)) (va_Sq (fun r => r = o.map ad)) 0 0 (fun _ => False)) (cw : CallW R s args own C index y bytes maxL ret ws rm 0 0 n) (hK : va_K D vw_cl (cw_T ca) s) (hP : va_P D vw_cl (cw_W ks ad ca M X F G) H) (hk : k ∈ ks) (hE : cw_C ad ca k (M k) (X k) (F k) (G k) = .inr (ci, fs)) (hc : vw_cl[ci]? = some (C, T, NF)) (hn : As.length = n) (hsize : ls.size = nL) (hstack : st0 = As.reverse ++ .ref (ad k) :: rest) (hW : (rest.map fun v => v.category).sum ≤ 8) (hdg : decode cc pc = .ok (.invokevirtual index, 3)) (hf : cells ≤ R.cells ∧ slots ≤ R.slots)
    (kn : o = none → W p l e R s m args below meth c H locs cells slots Q (F0 m (pc + 3) ls (.null :: rest))) (kr : ∀ k', o = some k' → W p l e R s m args below meth c H locs cells slots Q (F0 m (pc + 3) ls (.ref (ad k') :: rest))) : W p l e R s m args below meth c H locs cells slots Q (F0 m pc ls st0) := by
  subst hstack
  refine va_csq (W.runV S hM cw ⟨cw_blind D ks ad ca M X F G _, cw_recv hK hP hk hE hc, fun U hU hW => ⟨rfl, by rw [hU]; exact hP, va_K.moved hW.alike hK⟩⟩ rfl hn hsize rfl (lv_room hW) hdg hf) (fun r hr => ?_)
  subst hr
  cases h : o with
  | none => exact kn h
  | some k' => exact kr k' h
theorem cw_callsi {v : Int32} (S : CallFix p m c cc nL s args Ts own) (hM : Met l y ws rm (va_Pc As (cw_U D ks ad ca M X F G)) (vp_Si (fun r => r = v)) 0 0 (fun _ => False)) (cw : CallB R s args own index y bytes maxL ret ws rm 0 0 n ∧ (Cond.static y).before args s = true) (hK : va_K D vw_cl (cw_T ca) s) (hP : va_P D vw_cl (cw_W ks ad ca M X F G) H) (hn : As.length = n) (hsize : ls.size = nL) (hstack : st0 = As.reverse ++ rest) (hW : (rest.map fun v => v.category).sum ≤ 8) (hdg : decode cc pc = .ok (.invokestatic index, 3)) (hf : cells ≤ R.cells ∧ slots ≤ R.slots)
    (kk : W p l e R s m args below meth c H locs cells slots Q (F0 m (pc + 3) ls (.int v :: rest))) : W p l e R s m args below meth c H locs cells slots Q (F0 m pc ls st0) := by
  subst hstack
  exact vp_callSi (W.runS S hM cw ⟨cw_blind D ks ad ca M X F G _, fun U hU hW => ⟨rfl, by rw [hU]; exact hP, va_K.moved hW.alike hK⟩⟩ rfl hn hsize rfl (lv_room hW) hdg hf) (fun r hr => by subst hr; exact kk)
/-- the arrays of references -/
theorem cw_aald {t0 : Nat} {E : String} (hx : p.tables.exec = Jvm.exec) (hb : c.code = cc) (hK : va_K D vw_cl (cw_T ca) s) (hP : va_P D vw_cl (cw_W ks ad ca M X F G) H) (hk : k ∈ ks) (h0 : 0 < k) (h4 : k < 4) (ht : (cw_T ca)[t0]? = some (ca k, .object E)) {j : Nat} (hj : j < cw_n k) (hdg : decode cc pc = .ok (.aaload, 1))
    (kn : F k j = none → W p l e R s m args below meth c H locs cells slots Q (F0 m (pc + 1) ls (.null :: rest))) (kr : ∀ k', F k j = some k' → W p l e R s m args below meth c H locs cells slots Q (F0 m (pc + 1) ls (.ref (ad k') :: rest))) : W p l e R s m args below meth c H locs cells slots Q (F0 m pc ls (.int (nI j) :: .ref (ad k) :: rest)) := by
  obtain ⟨i, hi⟩ := List.getElem?_of_mem hk
  have hn : cw_n k < 2 ^ 31 := cw_n_lt k
  refine va_aldq hx hb hK hP i t0 ((cw_get hi).trans (by rw [cw_CA h0 h4])) ht (vp_in_nI hj hn) hdg ?_
  rw [nI_clamp (by omega)]
  cases h : F k j with
  | none => exact kn h
  | some k' => exact kr k' h
theorem cw_aalk {t0 : Nat} {E : String} (hx : p.tables.exec = Jvm.exec) (hb : c.code = cc) (hK : va_K D vw_cl (cw_T ca) s) (hP : va_P D vw_cl (cw_W ks ad ca M X F G) H) (hk : k ∈ ks) (h0 : 0 < k) (h4 : k < 4) (ht : (cw_T ca)[t0]? = some (ca k, .object E)) {j k' : Nat} (hj : j < cw_n k) (hFk : F k j = some k') (hdg : decode cc pc = .ok (.aaload, 1))
    (kk : W p l e R s m args below meth c H locs cells slots Q (F0 m (pc + 1) ls (.ref (ad k') :: rest))) : W p l e R s m args below meth c H locs cells slots Q (F0 m pc ls (.int (nI j) :: .ref (ad k) :: rest)) :=
  cw_aald hx hb hK hP hk h0 h4 ht hj hdg (fun h => by rw [hFk] at h; cases h) (fun k9 h => by rw [hFk] at h; cases h; exact kk)
/-- two references are compared -/
theorem cw_acmp_ne (hx : p.tables.exec = Jvm.exec) (hb : c.code = cc) (hJ : cw_J ks ad) {a b : Nat} (ha : a ∈ ks) (hb2 : b ∈ ks) {off : Int} {tgt : Nat} (hdg : decode cc pc = .ok (.if_acmp .ne off, 3)) (ht : (pc : Int) + off = (tgt : Int)) (kt : a ≠ b → W p l e R s m args below meth c H locs cells slots Q (F0 m tgt ls rest)) (kf : a = b → W p l e R s m args below meth c H locs cells slots Q (F0 m (pc + 3) ls rest)) : W p l e R s m args below meth c H locs cells slots Q (F0 m pc ls (.ref (ad b) :: .ref (ad a) :: rest)) :=
  lv_acmp_ne (rx := some (ad a)) (ry := some (ad b)) hx hb hdg ht (fun h => kt (fun q => h (by rw [q]))) (fun h => kf (cw_inj hJ ha hb2 (Option.some.inj h)))
theorem cw_acmp_eq (hx : p.tables.exec = Jvm.exec) (hb : c.code = cc) (hJ : cw_J ks ad) {a b : Nat} (ha : a ∈ ks) (hb2 : b ∈ ks) {off : Int} {tgt : Nat} (hdg : decode cc pc = .ok (.if_acmp .eq off, 3)) (ht : (pc : Int) + off = (tgt : Int)) (kt : a = b → W p l e R s m args below meth c H locs cells slots Q (F0 m tgt ls rest)) (kf : a ≠ b → W p l e R s m args below meth c H locs cells slots Q (F0 m (pc + 3) ls rest)) : W p l e R s m args below meth c H locs cells slots Q (F0 m pc ls (.ref (ad b) :: .ref (ad a) :: rest)) :=
  lv_acmp_eq (rx := some (ad a)) (ry := some (ad b)) hx hb hdg ht (fun h => kt (cw_inj hJ ha hb2 (Option.some.inj h))) (fun h => kf (fun q => h (by rw [q])))
end CW
end
section
/-! Part 21: how the class's maps stand to the mathematical state. -/
/-- the standing part: arrays, queues and their targets, blocks and their homes, callers, groups; where references may point -/
def cl_S (M : sp_N) (X : sp_B) (F : sp_O) (N : sp_N) (O : sp_O) (B : sp_B) : Prop :=
  (sp_Tr N ∧ N 6 0 ≤ 160 ∧ M 0 4 = N 1 0 ∧ M 0 5 = N 6 0 ∧ F 0 1 = some 1 ∧ F 0 2 = some 2 ∧ F 0 3 = some 3) ∧
  (∀ j, j < N 1 0 → F 1 j = some (8 + j) ∧ M (8 + j) 0 = j ∧ F (8 + j) 2 = (if j < 3 then none else some (8 + N 2 j))) ∧
  (∀ t, t < N 6 0 → F 2 t = some (20 + t) ∧ M (20 + t) 0 = t ∧ N 7 t < N 1 0 ∧ F (20 + t) 1 = some (8 + N 7 t) ∧ X (20 + t) 2 = B 14 t ∧ F (20 + t) 5 = (O 9 t).map (fun c => 20 + c) ∧ F (20 + t) 6 = (O 10 t).map (fun g => 4 + g)) ∧
  (∀ t c, t < N 6 0 → O 9 t = some c → c < t) ∧ (∀ t g, t < N 6 0 → O 10 t = some g → g < 4) ∧
  (∀ g, g < 4 → F 3 g = some (4 + g)) ∧
  (∀ j k, j < N 1 0 → F (8 + j) 4 = some k → ∃ t, t < N 6 0 ∧ k = 20 + t) ∧ (∀ j k, j < N 1 0 → F (8 + j) 5 = some k → ∃ t, t < N 6 0 ∧ k = 20 + t) ∧
  (∀ t k, t < N 6 0 → F (20 + t) 10 = some k → ∃ u, u < N 6 0 ∧ k = 20 + u) ∧ (∀ t k, t < N 6 0 → F (20 + t) 7 = some k → ∃ g, g < 4 ∧ k = 4 + g)
/-- a line of blocks, linked -/
def cl_K (F : sp_O) : List Nat → Prop
  | [] => True
  | [a] => F (20 + a) 10 = none
  | a :: b :: r => F (20 + a) 10 = some (20 + b) ∧ cl_K F (b :: r)
/-- the queue's line: the QUEUED blocks of that home, by stamp -/
def cl_L (F : sp_O) (N : sp_N) (j : Nat) (l : List Nat) : Prop :=
  (∀ t, t ∈ l ↔ t < N 6 0 ∧ N 8 t = 2 ∧ N 7 t = j) ∧ l.Pairwise (fun a b => N 12 a < N 12 b) ∧ F (8 + j) 4 = l.head?.map (fun t => 20 + t) ∧ F (8 + j) 5 = l.getLast?.map (fun t => 20 + t) ∧ cl_K F l
/-- how many open members -/
def sp_om (N : sp_N) (O : sp_O) (g : Nat) : Nat := sp_c (fun t => decide (O 10 t = some g) && decide (N 8 t < 5)) (N 6 0)
/-- the moving part -/
def cl_D (M : sp_N) (X : sp_B) (F : sp_O) (G : sp_Z) (N : sp_N) (O : sp_O) (Z : sp_Z) (B : sp_B) : Prop :=
  (M 0 0 = N 0 0 ∧ M 0 6 = sp_w N O ∧ M 0 7 = N 16 0 ∧ G 0 8 = Z 18 0) ∧
  (∀ j, j < N 1 0 → M (8 + j) 1 = N 3 j ∧ M (8 + j) 3 = N 4 j ∧ M (8 + j) 6 = sp_q N j ∧ M (8 + j) 7 = sp_p N j ∧ M (8 + j) 8 = N 5 j ∧ X (8 + j) 9 = sp_b N B j ∧ ∃ l, cl_L F N j l) ∧
  (∀ t, t < N 6 0 → M (20 + t) 3 = N 8 t ∧ X (20 + t) 4 = B 15 t ∧ (N 8 t = 0 → F (20 + t) 7 = (O 11 t).map (fun g => 4 + g)) ∧ (N 8 t = 1 → G (20 + t) 8 = Z 13 t) ∧ (N 8 t = 2 → M (20 + t) 9 = N 12 t) ∧ (N 8 t < 2 → F (20 + t) 10 = none)) ∧
  (∀ g, g < 4 → M (4 + g) 0 = N 17 g ∧ M (4 + g) 1 = sp_om N O g)
/-- what holds of the mathematical state alone -/
def sp_V (N : sp_N) (O : sp_O) (Z : sp_Z) (B : sp_B) : Prop :=
  (sp_Tr N ∧ sp_Bd N O ∧ 1 ≤ N 0 0) ∧
  (∀ j, j < 3 → N 4 j = 0 ∧ N 3 j = 0) ∧ (∀ j, N 1 0 ≤ j → N 4 j = 0 ∧ N 5 j = 0) ∧
  (∀ t, t < N 6 0 → N 7 t < N 1 0 ∧ (B 14 t = true → 3 ≤ N 7 t) ∧ ∀ c, O 9 t = some c → c < t) ∧
  (∀ t, N 6 0 ≤ t → B 15 t = false) ∧
  (∀ t, t < N 6 0 → 2 ≤ N 8 t → N 12 t < N 16 0) ∧ N 16 0 = sp_c (fun t => decide (2 ≤ N 8 t)) (N 6 0) ∧
  (∀ t u, t < N 6 0 → u < N 6 0 → N 8 t = 2 → N 8 u = 2 → N 12 t = N 12 u → t = u) ∧
  (∀ t u, t < N 6 0 → u < N 6 0 → sp_v N t = true → B 14 t = true → sp_v N u = true → N 7 u = N 7 t → u = t) ∧
  (∀ j, j < N 1 0 → sp_p N j ≤ N 5 j) ∧
  (∀ t c, t < N 6 0 → O 9 t = some c → N 8 t < 5 → N 8 c = 4) ∧
  (∀ t u c, t < N 6 0 → u < N 6 0 → O 9 t = some c → O 9 u = some c → N 8 t < 5 → N 8 u < 5 → t = u) ∧
  (0 ≤ Z 18 0 ∧ Z 18 0 ≤ 9223372036854775806)
/-- the keys that there are -/
def cl_k (ks : List Nat) (N : sp_N) : Prop := (∀ k, k < 8 → k ∈ ks) ∧ (∀ j, j < N 1 0 → 8 + j ∈ ks) ∧ (∀ t, t < N 6 0 → 20 + t ∈ ks)
section CLS
variable {M : sp_N} {X : sp_B} {F : sp_O} {N : sp_N} {O : sp_O} {B : sp_B}
theorem cl_tr (h : cl_S M X F N O B) : sp_Tr N := h.1.1
theorem cl_160 (h : cl_S M X F N O B) : N 6 0 ≤ 160 := h.1.2.1
theorem cl_12 (h : cl_S M X F N O B) : N 1 0 ≤ 12 := h.1.1.2.1
theorem cl_3 (h : cl_S M X F N O B) : 3 ≤ N 1 0 := h.1.1.1
theorem cl_M4 (h : cl_S M X F N O B) : M 0 4 = N 1 0 := h.1.2.2.1
theorem cl_M5 (h : cl_S M X F N O B) : M 0 5 = N 6 0 := h.1.2.2.2.1
theorem cl_F1 (h : cl_S M X F N O B) : F 0 1 = some 1 := h.1.2.2.2.2.1
theorem cl_F2 (h : cl_S M X F N O B) : F 0 2 = some 2 := h.1.2.2.2.2.2.1
theorem cl_F3 (h : cl_S M X F N O B) : F 0 3 = some 3 := h.1.2.2.2.2.2.2
theorem cl_q (h : cl_S M X F N O B) {j : Nat} (hj : j < N 1 0) : F 1 j = some (8 + j) := (h.2.1 j hj).1
theorem cl_qn (h : cl_S M X F N O B) {j : Nat} (hj : j < N 1 0) : M (8 + j) 0 = j := (h.2.1 j hj).2.1
theorem cl_t0 (h : cl_S M X F N O B) {j : Nat} (hj : j < N 1 0) (h3 : j < 3) : F (8 + j) 2 = none := by rw [(h.2.1 j hj).2.2, if_pos h3]
theorem cl_t1 (h : cl_S M X F N O B) {j : Nat} (hj : j < N 1 0) (h3 : 3 ≤ j) : F (8 + j) 2 = some (8 + N 2 j) := by rw [(h.2.1 j hj).2.2, if_neg (by omega)]
theorem cl_tn (h : cl_S M X F N O B) {j : Nat} (hj : j < N 1 0) (hn : F (8 + j) 2 = none) : j < 3 := by
  apply Classical.byContradiction
  intro q
  rw [cl_t1 h hj (by omega)] at hn
  cases hn
theorem cl_ts (h : cl_S M X F N O B) {j k : Nat} (hj : j < N 1 0) (hn : F (8 + j) 2 = some k) : 3 ≤ j ∧ k = 8 + N 2 j := by
  by_cases h3 : j < 3
  · rw [cl_t0 h hj h3] at hn; cases hn
  · rw [cl_t1 h hj (by omega)] at hn; cases hn; exact ⟨by omega, rfl⟩
theorem cl_tl (h : cl_S M X F N O B) {j : Nat} (hj : j < N 1 0) (h3 : 3 ≤ j) : N 2 j < N 1 0 := by
  obtain ⟨rk, hrk⟩ := (cl_tr h).2.2
  exact (hrk j h3 hj).1
theorem cl_b (h : cl_S M X F N O B) {t : Nat} (ht : t < N 6 0) : F 2 t = some (20 + t) := (h.2.2.1 t ht).1
theorem cl_bn (h : cl_S M X F N O B) {t : Nat} (ht : t < N 6 0) : M (20 + t) 0 = t := (h.2.2.1 t ht).2.1
theorem cl_hl (h : cl_S M X F N O B) {t : Nat} (ht : t < N 6 0) : N 7 t < N 1 0 := (h.2.2.1 t ht).2.2.1
theorem cl_h (h : cl_S M X F N O B) {t : Nat} (ht : t < N 6 0) : F (20 + t) 1 = some (8 + N 7 t) := (h.2.2.1 t ht).2.2.2.1
theorem cl_x (h : cl_S M X F N O B) {t : Nat} (ht : t < N 6 0) : X (20 + t) 2 = B 14 t := (h.2.2.1 t ht).2.2.2.2.1
theorem cl_cn (h : cl_S M X F N O B) {t : Nat} (ht : t < N 6 0) (hn : F (20 + t) 5 = none) : O 9 t = none := by
  rw [(h.2.2.1 t ht).2.2.2.2.2.1] at hn
  cases ho : O 9 t with
  | none => rfl
  | some c => rw [ho] at hn; cases hn
theorem cl_cs (h : cl_S M X F N O B) {t k : Nat} (ht : t < N 6 0) (hn : F (20 + t) 5 = some k) : ∃ c, O 9 t = some c ∧ c < t ∧ k = 20 + c := by
  rw [(h.2.2.1 t ht).2.2.2.2.2.1] at hn
  cases ho : O 9 t with
  | none => rw [ho] at hn; cases hn
  | some c => rw [ho] at hn; cases hn; exact ⟨c, rfl, h.2.2.2.1 t c ht ho, rfl⟩
theorem cl_mn (h : cl_S M X F N O B) {t : Nat} (ht : t < N 6 0) (hn : F (20 + t) 6 = none) : O 10 t = none := by
  rw [(h.2.2.1 t ht).2.2.2.2.2.2] at hn
  cases ho : O 10 t with
  | none => rfl
  | some c => rw [ho] at hn; cases hn
theorem cl_ms (h : cl_S M X F N O B) {t k : Nat} (ht : t < N 6 0) (hn : F (20 + t) 6 = some k) : ∃ g, O 10 t = some g ∧ g < 4 ∧ k = 4 + g := by
  rw [(h.2.2.1 t ht).2.2.2.2.2.2] at hn
  cases ho : O 10 t with
  | none => rw [ho] at hn; cases hn
  | some c => rw [ho] at hn; cases hn; exact ⟨c, rfl, h.2.2.2.2.1 t c ht ho, rfl⟩
theorem cl_g (h : cl_S M X F N O B) {g : Nat} (hg : g < 4) : F 3 g = some (4 + g) := h.2.2.2.2.2.1 g hg
theorem cl_fs (h : cl_S M X F N O B) {j k : Nat} (hj : j < N 1 0) (hn : F (8 + j) 4 = some k) : ∃ t, t < N 6 0 ∧ k = 20 + t := h.2.2.2.2.2.2.1 j k hj hn
theorem cl_ls (h : cl_S M X F N O B) {j k : Nat} (hj : j < N 1 0) (hn : F (8 + j) 5 = some k) : ∃ t, t < N 6 0 ∧ k = 20 + t := h.2.2.2.2.2.2.2.1 j k hj hn
theorem cl_ys (h : cl_S M X F N O B) {t k : Nat} (ht : t < N 6 0) (hn : F (20 + t) 10 = some k) : ∃ u, u < N 6 0 ∧ k = 20 + u := h.2.2.2.2.2.2.2.2.1 t k ht hn
theorem cl_hs (h : cl_S M X F N O B) {t k : Nat} (ht : t < N 6 0) (hn : F (20 + t) 7 = some k) : ∃ g, g < 4 ∧ k = 4 + g := h.2.2.2.2.2.2.2.2.2 t k ht hn
end CLS
/-- among those that y leads to: y itself, and those that its target leads to -/
theorem sp_any {N : sp_N} (hT : sp_Tr N) (P : Nat → Bool) {y : Nat} (hy : y < N 1 0) : sp_a (fun x => sp_l N y x && P x) (N 1 0) = (P y || (decide (3 ≤ y) && sp_a (fun x => sp_l N (N 2 y) x && P x) (N 1 0))) := by
  rw [Bool.eq_iff_iff, Bool.or_eq_true, Bool.and_eq_true, sp_a_iff, sp_a_iff]
  constructor
  · rintro ⟨x, hx, h⟩
    rw [Bool.and_eq_true] at h
    obtain ⟨h1, h2⟩ := h
    rw [sp_l_eq hT hy] at h1
    by_cases hyx : y = x
    · subst hyx; exact Or.inl h2
    · rw [if_neg hyx] at h1
      by_cases h3 : y < 3
      · rw [if_pos h3] at h1; cases h1
      · rw [if_neg h3] at h1
        exact Or.inr ⟨by simpa using Nat.not_lt.mp h3, x, hx, by rw [h1, h2]; rfl⟩
  · rintro (h | ⟨h3, x, hx, h⟩)
    · exact ⟨y, hy, by rw [sp_l_self, h]; rfl⟩
    · refine ⟨x, hx, ?_⟩
      rw [Bool.and_eq_true] at h ⊢
      refine ⟨?_, h.2⟩
      rw [sp_l_eq hT hy]
      by_cases hyx : y = x
      · rw [if_pos hyx]
      · rw [if_neg hyx, if_neg (by simpa using h3)]
        exact h.1
/-- what the class's readers answer -/
def cs_cl (X : sp_B) (F : sp_O) (j : Nat) : Bool := match F (8 + j) 4 with
  | none => false
  | some k => X k 2
def cs_rm (M : sp_N) (j : Nat) : Bool := decide (j < 3) || decide (M (8 + j) 7 < M (8 + j) 1)
/-- x doesn't let a block of home h in -/
def cs_no (M : sp_N) (X : sp_B) (F : sp_O) (h x : Nat) : Bool := decide (0 < M (8 + x) 3) || !cs_rm M x || X (8 + x) 9 || (!decide (x = h) && cs_cl X F x)
def cs_in (M : sp_N) (X : sp_B) (F : sp_O) (N : sp_N) (t : Nat) : Bool := if X (20 + t) 2 = true ∧ 0 < M (8 + N 7 t) 7 then false else !(sp_a (fun x => sp_l N (N 7 t) x && cs_no M X F (N 7 t) x) (N 1 0))
def cs_ms (M : sp_N) (X : sp_B) (F : sp_O) (N : sp_N) (t : Nat) : Bool := cs_in M X F N t && (X (20 + t) 4 || !decide (F (20 + t) 5 = none) || decide (M 0 6 < M 0 0))
def cs_bf (M : sp_N) (N : sp_N) (t u : Nat) : Bool := decide (sp_r N (N 7 u) < sp_r N (N 7 t)) || (decide (sp_r N (N 7 t) = sp_r N (N 7 u)) && decide (M (20 + t) 9 < M (20 + u) 9))
/-- numbers stay small -/
def cl_B (M : sp_N) : Prop := ∀ k f, M k f < 2 ^ 31
end
section
/-! Part 22: the class: isRoot, leadsTo, quality, hasRoom, isClosed, isEmpty, isAhead, isLetIn, goesBefore. By wip/gen/gen_cls1.py. -/
set_option maxHeartbeats 4000000 in
set_option maxRecDepth 100000 in
theorem cc_Q_isRoot (l : Launch) (D : va_G) (ks : List Nat) (ad : Nat → Nat) (ca : Nat → ClassId) (M : sp_N) (X : sp_B) (F : sp_O) (G : sp_Z) (N : sp_N) (O : sp_O) (B : sp_B) (hC : cl_S M X F N O B) (hks : cl_k ks N) (hMB : cl_B M) (j : Nat) (hj : j < N 1 0) : Met l my_Q_isRoot (Cond.code my_Q_isRoot cd_Q_isRoot 1 (some .boolean) :: bg_tbl) ({ frames := 0, cells := 0, slots := 0, locals := 0 }) (va_Pc [.ref (ad (8 + j))] (cw_U D ks ad ca M X F G)) (vp_Si (fun r => r = bd_b (decide (j < 3)))) 0 0 (fun _ => False) := by
  refine Met.ofW (cc := cd_Q_isRoot) (maxL := 1) (ret := (some .boolean)) (by decide) rfl ?_
  intro p e s m args below meth c s₁ BB hml hv
  obtain ⟨rfl, hP, hK⟩ := hv
  have hx := BB.exec
  have hb := BB.bytes
  have hr := BB.returns
  have hts : ∀ w ∈ bg_tbl, w.before ([.ref (ad (8 + j))] : List Value).toArray s = true := fun w h => atoms_spec (ws := (Cond.code my_Q_isRoot cd_Q_isRoot 1 (some .boolean) :: bg_tbl)) BB.pre w (List.mem_cons_of_mem _ h)
  have hown : s.vm.findClass rn_Q = some m.cls := findClass_of_methodNamed BB.named
  have hlocks := BB.notSynchronized
  have h12 := cl_12 hC
  have h160 := cl_160 hC
  have h3q := cl_3 hC
  have hM4 := cl_M4 hC
  have hM5 := cl_M5 hC
  have hl := lv_entry ([.ref (ad (8 + j))]) (n := 1) (Nat.le_of_ble_eq_true rfl)
  rw [lg_entry_eq]
  generalize (lg_sl ([.ref (ad (8 + j))]) ++ List.replicate (1 - (lg_sl ([.ref (ad (8 + j))])).length) Slot.unset).toArray = ls at hl ⊢
  have hl : lv_has ls 1 [(0, .ref (ad (8 + j)))] := hl
  refine lv_aload_n hx hb dd_Q_isRoot_0 rfl (lv_at hl 0 rfl) ?_
  refine cw_getr (k := 8 + j) (C := rn_Q) (T := ft_Q) (NF := 10) hx hb hts tw_fs_Q hown hK hP (hks.2.1 _ hj) (cw_CQ (Nat.lt_of_lt_of_le hj (cl_12 hC)) ad ca _ _ _ _) rfl 2 (by decide) (hts _ tw_fl_Q_13) rfl rfl dd_Q_isRoot_1 (fun h1 => ?_) (fun k9 h1 => ?_)
  · have hj3 := cl_tn hC hj h1
    refine lv_ifnonnullN hx hb dd_Q_isRoot_4 ?_
    refine lv_iconst (v := bd_b true) hx hb dd_Q_isRoot_7 (by decide) ?_
    refine lv_goto (tgt := 12) hx hb dd_Q_isRoot_8 rfl ?_
    exact W.zret (ty := .boolean) hx hb hr (bd_b_nar _) (fun tt htt hWW => ⟨_, rfl, (by rw [decide_eq_true hj3]), htt⟩) (fun _ h => by cases h) dd_Q_isRoot_12
  · obtain ⟨hj3, rfl⟩ := cl_ts hC hj h1
    refine lv_ifnonnull (tgt := 11) hx hb dd_Q_isRoot_4 rfl ?_
    refine lv_iconst (v := bd_b false) hx hb dd_Q_isRoot_11 (by decide) ?_
    exact W.zret (ty := .boolean) hx hb hr (bd_b_nar _) (fun tt htt hWW => ⟨_, rfl, (by rw [decide_eq_false (by omega)]), htt⟩) (fun _ h => by cases h) dd_Q_isRoot_12

set_option maxHeartbeats 4000000 in
set_option maxRecDepth 100000 in
theorem cc_G_isEmpty (l : Launch) (D : va_G) (ks : List Nat) (ad : Nat → Nat) (ca : Nat → ClassId) (M : sp_N) (X : sp_B) (F : sp_O) (G : sp_Z) (N : sp_N) (O : sp_O) (B : sp_B) (hC : cl_S M X F N O B) (hks : cl_k ks N) (hMB : cl_B M) (g : Nat) (hg : g < 4) : Met l my_G_isEmpty (Cond.code my_G_isEmpty cd_G_isEmpty 1 (some .boolean) :: bg_tbl) ({ frames := 0, cells := 0, slots := 0, locals := 0 }) (va_Pc [.ref (ad (4 + g))] (cw_U D ks ad ca M X F G)) (vp_Si (fun r => r = bd_b (decide (M (4 + g) 0 = 0) && decide (M (4 + g) 1 = 0)))) 0 0 (fun _ => False) := by
  refine Met.ofW (cc := cd_G_isEmpty) (maxL := 1) (ret := (some .boolean)) (by decide) rfl ?_
  intro p e s m args below meth c s₁ BB hml hv
  obtain ⟨rfl, hP, hK⟩ := hv
  have hx := BB.exec
  have hb := BB.bytes
  have hr := BB.returns
  have hts : ∀ w ∈ bg_tbl, w.before ([.ref (ad (4 + g))] : List Value).toArray s = true := fun w h => atoms_spec (ws := (Cond.code my_G_isEmpty cd_G_isEmpty 1 (some .boolean) :: bg_tbl)) BB.pre w (List.mem_cons_of_mem _ h)
  have hown : s.vm.findClass rn_G = some m.cls := findClass_of_methodNamed BB.named
  have hlocks := BB.notSynchronized
  have h12 := cl_12 hC
  have h160 := cl_160 hC
  have h3q := cl_3 hC
  have hM4 := cl_M4 hC
  have hM5 := cl_M5 hC
  have hl := lv_entry ([.ref (ad (4 + g))]) (n := 1) (Nat.le_of_ble_eq_true rfl)
  rw [lg_entry_eq]
  generalize (lg_sl ([.ref (ad (4 + g))]) ++ List.replicate (1 - (lg_sl ([.ref (ad (4 + g))])).length) Slot.unset).toArray = ls at hl ⊢
  have hl : lv_has ls 1 [(0, .ref (ad (4 + g)))] := hl
  refine lv_aload_n hx hb dd_G_isEmpty_0 rfl (lv_at hl 0 rfl) ?_
  refine cw_get1 (k := 4 + g) (C := rn_G) (T := ft_G) (NF := 2) (v := .int (nI (M (4 + g) 0))) hx hb hts tw_fs_G hown hK hP (hks.1 _ (by omega)) (cw_CG hg ad ca _ _ _ _) rfl 0 (by decide) (hts _ tw_fl_G_7) rfl rfl dd_G_isEmpty_1 ?_
  refine bq_nne (tgt := 18) hx hb (hMB _ _) dd_G_isEmpty_4 rfl (fun h4 => ?_) (fun h4 => ?_)
  · refine lv_iconst (v := bd_b false) hx hb dd_G_isEmpty_18 (by decide) ?_
    exact W.zret (ty := .boolean) hx hb hr (bd_b_nar _) (fun tt htt hWW => ⟨_, rfl, (by simp [h4]), htt⟩) (fun _ h => by cases h) dd_G_isEmpty_19
  · refine lv_aload_n hx hb dd_G_isEmpty_7 rfl (lv_at hl 0 rfl) ?_
    refine cw_get1 (k := 4 + g) (C := rn_G) (T := ft_G) (NF := 2) (v := .int (nI (M (4 + g) 1))) hx hb hts tw_fs_G hown hK hP (hks.1 _ (by omega)) (cw_CG hg ad ca _ _ _ _) rfl 1 (by decide) (hts _ tw_fl_G_13) rfl rfl dd_G_isEmpty_8 ?_
    refine bq_nne (tgt := 18) hx hb (hMB _ _) dd_G_isEmpty_11 rfl (fun h11 => ?_) (fun h11 => ?_)
    · refine lv_iconst (v := bd_b false) hx hb dd_G_isEmpty_18 (by decide) ?_
      exact W.zret (ty := .boolean) hx hb hr (bd_b_nar _) (fun tt htt hWW => ⟨_, rfl, (by simp [h4, h11]), htt⟩) (fun _ h => by cases h) dd_G_isEmpty_19
    · refine lv_iconst (v := bd_b true) hx hb dd_G_isEmpty_14 (by decide) ?_
      refine lv_goto (tgt := 19) hx hb dd_G_isEmpty_15 rfl ?_
      exact W.zret (ty := .boolean) hx hb hr (bd_b_nar _) (fun tt htt hWW => ⟨_, rfl, (by simp [h4, h11]), htt⟩) (fun _ h => by cases h) dd_G_isEmpty_19

set_option maxHeartbeats 4000000 in
set_option maxRecDepth 100000 in
theorem cc_B_isAhead (l : Launch) (D : va_G) (ks : List Nat) (ad : Nat → Nat) (ca : Nat → ClassId) (M : sp_N) (X : sp_B) (F : sp_O) (G : sp_Z) (N : sp_N) (O : sp_O) (B : sp_B) (hC : cl_S M X F N O B) (hks : cl_k ks N) (hMB : cl_B M) (t : Nat) (ht : t < N 6 0) : Met l my_B_isAhead (Cond.code my_B_isAhead cd_B_isAhead 1 (some .boolean) :: bg_tbl) ({ frames := 0, cells := 0, slots := 0, locals := 0 }) (va_Pc [.ref (ad (20 + t))] (cw_U D ks ad ca M X F G)) (vp_Si (fun r => r = bd_b (decide (M (20 + t) 3 < 3)))) 0 0 (fun _ => False) := by
  refine Met.ofW (cc := cd_B_isAhead) (maxL := 1) (ret := (some .boolean)) (by decide) rfl ?_
  intro p e s m args below meth c s₁ BB hml hv
  obtain ⟨rfl, hP, hK⟩ := hv
  have hx := BB.exec
  have hb := BB.bytes
  have hr := BB.returns
  have hts : ∀ w ∈ bg_tbl, w.before ([.ref (ad (20 + t))] : List Value).toArray s = true := fun w h => atoms_spec (ws := (Cond.code my_B_isAhead cd_B_isAhead 1 (some .boolean) :: bg_tbl)) BB.pre w (List.mem_cons_of_mem _ h)
  have hown : s.vm.findClass rn_B = some m.cls := findClass_of_methodNamed BB.named
  have hlocks := BB.notSynchronized
  have h12 := cl_12 hC
  have h160 := cl_160 hC
  have h3q := cl_3 hC
  have hM4 := cl_M4 hC
  have hM5 := cl_M5 hC
  have hl := lv_entry ([.ref (ad (20 + t))]) (n := 1) (Nat.le_of_ble_eq_true rfl)
  rw [lg_entry_eq]
  generalize (lg_sl ([.ref (ad (20 + t))]) ++ List.replicate (1 - (lg_sl ([.ref (ad (20 + t))])).length) Slot.unset).toArray = ls at hl ⊢
  have hl : lv_has ls 1 [(0, .ref (ad (20 + t)))] := hl
  refine lv_aload_n hx hb dd_B_isAhead_0 rfl (lv_at hl 0 rfl) ?_
  refine cw_get1 (k := 20 + t) (C := rn_B) (T := ft_B) (NF := 11) (v := .int (nI (M (20 + t) 3))) hx hb hts tw_fs_B hown hK hP (hks.2.2 _ ht) (cw_CB _ ad ca _ _ _ _) rfl 3 (by decide) (hts _ tw_fl_B_23) rfl rfl dd_B_isAhead_1 ?_
  refine bq_neq (tgt := 23) hx hb (hMB _ _) dd_B_isAhead_4 rfl (fun h4 => ?_) (fun h4 => ?_)
  · refine lv_iconst (v := bd_b true) hx hb dd_B_isAhead_23 (by decide) ?_
    refine lv_goto (tgt := 28) hx hb dd_B_isAhead_24 rfl ?_
    exact W.zret (ty := .boolean) hx hb hr (bd_b_nar _) (fun tt htt hWW => ⟨_, rfl, (by rw [decide_eq_true (by omega)]), htt⟩) (fun _ h => by cases h) dd_B_isAhead_28
  · refine lv_aload_n hx hb dd_B_isAhead_7 rfl (lv_at hl 0 rfl) ?_
    refine cw_get1 (k := 20 + t) (C := rn_B) (T := ft_B) (NF := 11) (v := .int (nI (M (20 + t) 3))) hx hb hts tw_fs_B hown hK hP (hks.2.2 _ ht) (cw_CB _ ad ca _ _ _ _) rfl 3 (by decide) (hts _ tw_fl_B_23) rfl rfl dd_B_isAhead_8 ?_
    refine lv_iconst (v := nI 1) hx hb dd_B_isAhead_11 (by decide) ?_
    refine bq_eq (tgt := 23) hx hb (hMB _ _) (by decide) dd_B_isAhead_12 rfl (fun h12 => ?_) (fun h12 => ?_)
    · refine lv_iconst (v := bd_b true) hx hb dd_B_isAhead_23 (by decide) ?_
      refine lv_goto (tgt := 28) hx hb dd_B_isAhead_24 rfl ?_
      exact W.zret (ty := .boolean) hx hb hr (bd_b_nar _) (fun tt htt hWW => ⟨_, rfl, (by rw [decide_eq_true (by omega)]), htt⟩) (fun _ h => by cases h) dd_B_isAhead_28
    · refine lv_aload_n hx hb dd_B_isAhead_15 rfl (lv_at hl 0 rfl) ?_
      refine cw_get1 (k := 20 + t) (C := rn_B) (T := ft_B) (NF := 11) (v := .int (nI (M (20 + t) 3))) hx hb hts tw_fs_B hown hK hP (hks.2.2 _ ht) (cw_CB _ ad ca _ _ _ _) rfl 3 (by decide) (hts _ tw_fl_B_23) rfl rfl dd_B_isAhead_16 ?_
      refine lv_iconst (v := nI 2) hx hb dd_B_isAhead_19 (by decide) ?_
      refine bq_ne (tgt := 27) hx hb (hMB _ _) (by decide) dd_B_isAhead_20 rfl (fun h20 => ?_) (fun h20 => ?_)
      · refine lv_iconst (v := bd_b false) hx hb dd_B_isAhead_27 (by decide) ?_
        exact W.zret (ty := .boolean) hx hb hr (bd_b_nar _) (fun tt htt hWW => ⟨_, rfl, (by rw [decide_eq_false (by omega)]), htt⟩) (fun _ h => by cases h) dd_B_isAhead_28
      · refine lv_iconst (v := bd_b true) hx hb dd_B_isAhead_23 (by decide) ?_
        refine lv_goto (tgt := 28) hx hb dd_B_isAhead_24 rfl ?_
        exact W.zret (ty := .boolean) hx hb hr (bd_b_nar _) (fun tt htt hWW => ⟨_, rfl, (by rw [decide_eq_true (by omega)]), htt⟩) (fun _ h => by cases h) dd_B_isAhead_28

set_option maxHeartbeats 4000000 in
set_option maxRecDepth 100000 in
theorem cc_Q_isClosed (l : Launch) (D : va_G) (ks : List Nat) (ad : Nat → Nat) (ca : Nat → ClassId) (M : sp_N) (X : sp_B) (F : sp_O) (G : sp_Z) (N : sp_N) (O : sp_O) (B : sp_B) (hC : cl_S M X F N O B) (hks : cl_k ks N) (hMB : cl_B M) (j : Nat) (hj : j < N 1 0) : Met l my_Q_isClosed (Cond.code my_Q_isClosed cd_Q_isClosed 1 (some .boolean) :: bg_tbl) ({ frames := 0, cells := 0, slots := 0, locals := 0 }) (va_Pc [.ref (ad (8 + j))] (cw_U D ks ad ca M X F G)) (vp_Si (fun r => r = bd_b (cs_cl X F j))) 0 0 (fun _ => False) := by
  refine Met.ofW (cc := cd_Q_isClosed) (maxL := 1) (ret := (some .boolean)) (by decide) rfl ?_
  intro p e s m args below meth c s₁ BB hml hv
  obtain ⟨rfl, hP, hK⟩ := hv
  have hx := BB.exec
  have hb := BB.bytes
  have hr := BB.returns
  have hts : ∀ w ∈ bg_tbl, w.before ([.ref (ad (8 + j))] : List Value).toArray s = true := fun w h => atoms_spec (ws := (Cond.code my_Q_isClosed cd_Q_isClosed 1 (some .boolean) :: bg_tbl)) BB.pre w (List.mem_cons_of_mem _ h)
  have hown : s.vm.findClass rn_Q = some m.cls := findClass_of_methodNamed BB.named
  have hlocks := BB.notSynchronized
  have h12 := cl_12 hC
  have h160 := cl_160 hC
  have h3q := cl_3 hC
  have hM4 := cl_M4 hC
  have hM5 := cl_M5 hC
  have hl := lv_entry ([.ref (ad (8 + j))]) (n := 1) (Nat.le_of_ble_eq_true rfl)
  rw [lg_entry_eq]
  generalize (lg_sl ([.ref (ad (8 + j))]) ++ List.replicate (1 - (lg_sl ([.ref (ad (8 + j))])).length) Slot.unset).toArray = ls at hl ⊢
  have hl : lv_has ls 1 [(0, .ref (ad (8 + j)))] := hl
  refine lv_aload_n hx hb dd_Q_isClosed_0 rfl (lv_at hl 0 rfl) ?_
  refine cw_getr (k := 8 + j) (C := rn_Q) (T := ft_Q) (NF := 10) hx hb hts tw_fs_Q hown hK hP (hks.2.1 _ hj) (cw_CQ (Nat.lt_of_lt_of_le hj (cl_12 hC)) ad ca _ _ _ _) rfl 4 (by decide) (hts _ tw_fl_Q_27) rfl rfl dd_Q_isClosed_1 (fun h1 => ?_) (fun k9 h1 => ?_)
  · skip
    refine lv_ifnullN (tgt := 21) hx hb dd_Q_isClosed_4 rfl ?_
    refine lv_iconst (v := bd_b false) hx hb dd_Q_isClosed_21 (by decide) ?_
    exact W.zret (ty := .boolean) hx hb hr (bd_b_nar _) (fun tt htt hWW => ⟨_, rfl, (by simp [cs_cl, h1]), htt⟩) (fun _ h => by cases h) dd_Q_isClosed_22
  · obtain ⟨tf, htf, rfl⟩ := cl_fs hC hj h1
    refine lv_ifnull hx hb dd_Q_isClosed_4 ?_
    refine lv_aload_n hx hb dd_Q_isClosed_7 rfl (lv_at hl 0 rfl) ?_
    refine cw_getk (k := 8 + j) (C := rn_Q) (T := ft_Q) (NF := 10) hx hb hts tw_fs_Q hown hK hP (hks.2.1 _ hj) (cw_CQ (Nat.lt_of_lt_of_le hj (cl_12 hC)) ad ca _ _ _ _) rfl 4 (by decide) (hts _ tw_fl_Q_27) rfl rfl h1 dd_Q_isClosed_8 ?_
    refine cw_get1 (k := 20 + tf) (C := rn_B) (T := ft_B) (NF := 11) (v := .int (bd_b (X (20 + tf) 2))) hx hb hts tw_fs_B hown hK hP (hks.2.2 _ htf) (cw_CB _ ad ca _ _ _ _) rfl 2 (by decide) (hts _ tw_fl_Q_31) rfl rfl dd_Q_isClosed_11 ?_
    refine bq_zeq (tgt := 21) hx hb dd_Q_isClosed_14 rfl (fun h14 => ?_) (fun h14 => ?_)
    · refine lv_iconst (v := bd_b false) hx hb dd_Q_isClosed_21 (by decide) ?_
      exact W.zret (ty := .boolean) hx hb hr (bd_b_nar _) (fun tt htt hWW => ⟨_, rfl, (by simp [cs_cl, h1, h14]), htt⟩) (fun _ h => by cases h) dd_Q_isClosed_22
    · refine lv_iconst (v := bd_b true) hx hb dd_Q_isClosed_17 (by decide) ?_
      refine lv_goto (tgt := 22) hx hb dd_Q_isClosed_18 rfl ?_
      exact W.zret (ty := .boolean) hx hb hr (bd_b_nar _) (fun tt htt hWW => ⟨_, rfl, (by simp [cs_cl, h1, h14]), htt⟩) (fun _ h => by cases h) dd_Q_isClosed_22

set_option maxHeartbeats 4000000 in
set_option maxRecDepth 100000 in
theorem cc_Q_hasRoom (l : Launch) (D : va_G) (ks : List Nat) (ad : Nat → Nat) (ca : Nat → ClassId) (M : sp_N) (X : sp_B) (F : sp_O) (G : sp_Z) (N : sp_N) (O : sp_O) (B : sp_B) (hC : cl_S M X F N O B) (hks : cl_k ks N) (hMB : cl_B M) (j : Nat) (hj : j < N 1 0) : Met l my_Q_hasRoom (Cond.code my_Q_hasRoom cd_Q_hasRoom 1 (some .boolean) :: bg_tbl) ({ frames := 1, cells := 0, slots := 0, locals := 20 }) (va_Pc [.ref (ad (8 + j))] (cw_U D ks ad ca M X F G)) (vp_Si (fun r => r = bd_b (cs_rm M j))) 0 0 (fun _ => False) := by
  refine Met.ofW (cc := cd_Q_hasRoom) (maxL := 1) (ret := (some .boolean)) (by decide) rfl ?_
  intro p e s m args below meth c s₁ BB hml hv
  obtain ⟨rfl, hP, hK⟩ := hv
  have hx := BB.exec
  have hb := BB.bytes
  have hr := BB.returns
  have hts : ∀ w ∈ bg_tbl, w.before ([.ref (ad (8 + j))] : List Value).toArray s = true := fun w h => atoms_spec (ws := (Cond.code my_Q_hasRoom cd_Q_hasRoom 1 (some .boolean) :: bg_tbl)) BB.pre w (List.mem_cons_of_mem _ h)
  have hown : s.vm.findClass rn_Q = some m.cls := findClass_of_methodNamed BB.named
  have hlocks := BB.notSynchronized
  have h12 := cl_12 hC
  have h160 := cl_160 hC
  have h3q := cl_3 hC
  have hM4 := cl_M4 hC
  have hM5 := cl_M5 hC
  have hl := lv_entry ([.ref (ad (8 + j))]) (n := 1) (Nat.le_of_ble_eq_true rfl)
  rw [lg_entry_eq]
  generalize (lg_sl ([.ref (ad (8 + j))]) ++ List.replicate (1 - (lg_sl ([.ref (ad (8 + j))])).length) Slot.unset).toArray = ls at hl ⊢
  have hl : lv_has ls 1 [(0, .ref (ad (8 + j)))] := hl
  refine lv_aload_n hx hb dd_Q_hasRoom_0 rfl (lv_at hl 0 rfl) ?_
  refine cw_calli (k := 8 + j) (C := rn_Q) (T := ft_Q) (NF := 10) (As := []) (rest := []) (v := bd_b (decide (j < 3))) ⟨hx, hb, hml, hown, hts⟩ (cc_Q_isRoot l D ks ad ca M X F G N O B hC hks hMB j hj) (bg_cwV 0 hts tw_ml_Q_20 tw_im_Q_isRoot tw_se_Q_isRoot tw_in_Q tw_co_Q_isRoot rfl rfl th_Q_isRoot ⟨Nat.le_of_ble_eq_true rfl, Nat.le_of_ble_eq_true rfl⟩) hK hP (hks.2.1 _ hj) (cw_CQ (Nat.lt_of_lt_of_le hj (cl_12 hC)) ad ca _ _ _ _) rfl rfl hl.1 rfl (by decide) dd_Q_hasRoom_1 ⟨Nat.zero_le _, Nat.zero_le _⟩ ?_
  refine bq_zne (tgt := 18) hx hb dd_Q_hasRoom_4 rfl (fun h4 => ?_) (fun h4 => ?_)
  · refine lv_iconst (v := bd_b true) hx hb dd_Q_hasRoom_18 (by decide) ?_
    refine lv_goto (tgt := 23) hx hb dd_Q_hasRoom_19 rfl ?_
    exact W.zret (ty := .boolean) hx hb hr (bd_b_nar _) (fun tt htt hWW => ⟨_, rfl, (by simp only [cs_rm]; simp [h4]), htt⟩) (fun _ h => by cases h) dd_Q_hasRoom_23
  · refine lv_aload_n hx hb dd_Q_hasRoom_7 rfl (lv_at hl 0 rfl) ?_
    refine cw_get1 (k := 8 + j) (C := rn_Q) (T := ft_Q) (NF := 10) (v := .int (nI (M (8 + j) 7))) hx hb hts tw_fs_Q hown hK hP (hks.2.1 _ hj) (cw_CQ (Nat.lt_of_lt_of_le hj (cl_12 hC)) ad ca _ _ _ _) rfl 7 (by decide) (hts _ tw_fl_Q_24) rfl rfl dd_Q_hasRoom_8 ?_
    refine lv_aload_n hx hb dd_Q_hasRoom_11 rfl (lv_at hl 0 rfl) ?_
    refine cw_get1 (k := 8 + j) (C := rn_Q) (T := ft_Q) (NF := 10) (v := .int (nI (M (8 + j) 1))) hx hb hts tw_fs_Q hown hK hP (hks.2.1 _ hj) (cw_CQ (Nat.lt_of_lt_of_le hj (cl_12 hC)) ad ca _ _ _ _) rfl 1 (by decide) (hts _ tw_fl_Q_17) rfl rfl dd_Q_hasRoom_12 ?_
    refine bq_ge (tgt := 22) hx hb (hMB _ _) (hMB _ _) dd_Q_hasRoom_15 rfl (fun h15 => ?_) (fun h15 => ?_)
    · refine lv_iconst (v := bd_b false) hx hb dd_Q_hasRoom_22 (by decide) ?_
      exact W.zret (ty := .boolean) hx hb hr (bd_b_nar _) (fun tt htt hWW => ⟨_, rfl, (by simp only [cs_rm]; simp [h4, h15, Nat.not_lt.mpr h15]), htt⟩) (fun _ h => by cases h) dd_Q_hasRoom_23
    · refine lv_iconst (v := bd_b true) hx hb dd_Q_hasRoom_18 (by decide) ?_
      refine lv_goto (tgt := 23) hx hb dd_Q_hasRoom_19 rfl ?_
      exact W.zret (ty := .boolean) hx hb hr (bd_b_nar _) (fun tt htt hWW => ⟨_, rfl, (by simp only [cs_rm]; simp [h4, h15, Nat.not_le.mpr h15]), htt⟩) (fun _ h => by cases h) dd_Q_hasRoom_23

set_option maxHeartbeats 4000000 in
set_option maxRecDepth 100000 in
theorem cc_Q_leadsTo (l : Launch) (D : va_G) (ks : List Nat) (ad : Nat → Nat) (ca : Nat → ClassId) (M : sp_N) (X : sp_B) (F : sp_O) (G : sp_Z) (N : sp_N) (O : sp_O) (B : sp_B) (hC : cl_S M X F N O B) (hks : cl_k ks N) (hMB : cl_B M) (hJ : cw_J ks ad) (j i : Nat) (hj : j < N 1 0) (hi : i < N 1 0) : Met l my_Q_leadsTo (Cond.code my_Q_leadsTo cd_Q_leadsTo 3 (some .boolean) :: bg_tbl) ({ frames := 0, cells := 0, slots := 0, locals := 0 }) (va_Pc [.ref (ad (8 + j)), .ref (ad (8 + i))] (cw_U D ks ad ca M X F G)) (vp_Si (fun r => r = bd_b (sp_l N j i))) 0 0 (fun _ => False) := by
  refine Met.ofW (cc := cd_Q_leadsTo) (maxL := 3) (ret := (some .boolean)) (by decide) rfl ?_
  intro p e s m args below meth c s₁ BB hml hv
  obtain ⟨rfl, hP, hK⟩ := hv
  have hx := BB.exec
  have hb := BB.bytes
  have hr := BB.returns
  have hts : ∀ w ∈ bg_tbl, w.before ([.ref (ad (8 + j)), .ref (ad (8 + i))] : List Value).toArray s = true := fun w h => atoms_spec (ws := (Cond.code my_Q_leadsTo cd_Q_leadsTo 3 (some .boolean) :: bg_tbl)) BB.pre w (List.mem_cons_of_mem _ h)
  have hown : s.vm.findClass rn_Q = some m.cls := findClass_of_methodNamed BB.named
  have hlocks := BB.notSynchronized
  have h12 := cl_12 hC
  have h160 := cl_160 hC
  have h3q := cl_3 hC
  have hM4 := cl_M4 hC
  have hM5 := cl_M5 hC
  have hl := lv_entry ([.ref (ad (8 + j)), .ref (ad (8 + i))]) (n := 3) (Nat.le_of_ble_eq_true rfl)
  rw [lg_entry_eq]
  generalize (lg_sl ([.ref (ad (8 + j)), .ref (ad (8 + i))]) ++ List.replicate (3 - (lg_sl ([.ref (ad (8 + j)), .ref (ad (8 + i))])).length) Slot.unset).toArray = ls at hl ⊢
  have hl : lv_has ls 3 [(0, .ref (ad (8 + j))), (1, .ref (ad (8 + i)))] := hl
  have lp : ∀ y, y < N 1 0 → ∀  (ls : Array Slot), (sp_l N y i = sp_l N j i) →  lv_has ls 3 [(1, .ref (ad (8 + i))), (2, .ref (ad (8 + y)))] → W p l e (headSpec (Cond.code my_Q_leadsTo cd_Q_leadsTo 3 (some .boolean) :: bg_tbl) ({ frames := 0, cells := 0, slots := 0, locals := 0 })).room s m ([.ref (ad (8 + j)), .ref (ad (8 + i))] : List Value).toArray below meth c s.heap [] 0 0 (MQ below (vp_Si (fun r => r = bd_b (sp_l N j i))) ([.ref (ad (8 + j)), .ref (ad (8 + i))] : List Value).toArray s 0 0 (fun _ => False)) (F0 m 2 ls []) := by
    refine sp_ind (cl_tr hC) (fun y hj3  ls he hl => ?_) (fun y hj3 hy ih  ls he hl => ?_)
    · have hy : y < N 1 0 := by omega
      refine lv_aload_n hx hb dd_Q_leadsTo_2 rfl (lv_at hl 1 rfl) ?_
      refine lv_ifnull hx hb dd_Q_leadsTo_3 ?_
      refine lv_aload_n hx hb dd_Q_leadsTo_6 rfl (lv_at hl 1 rfl) ?_
      refine lv_aload_n hx hb dd_Q_leadsTo_7 rfl (lv_at hl 0 rfl) ?_
      refine cw_acmp_ne (a := 8 + y) (b := 8 + i) (tgt := 13) hx hb hJ (hks.2.1 _ hy) (hks.2.1 _ hi) dd_Q_leadsTo_8 rfl (fun h8 => ?_) (fun h8 => ?_)
      · refine lv_aload_n hx hb dd_Q_leadsTo_13 rfl (lv_at hl 1 rfl) ?_
        refine cw_getn (k := 8 + y) (C := rn_Q) (T := ft_Q) (NF := 10) hx hb hts tw_fs_Q hown hK hP (hks.2.1 _ hy) (cw_CQ (Nat.lt_of_lt_of_le hy (cl_12 hC)) ad ca _ _ _ _) rfl 2 (by decide) (hts _ tw_fl_Q_13) rfl rfl (cl_t0 hC hy hj3) dd_Q_leadsTo_14 ?_
        refine lv_astore_nN hx hb dd_Q_leadsTo_17 rfl hl (by decide) rfl (fun ls hl => ?_)
        have hl : lv_has ls 3 [(2, .null), (1, .ref (ad (8 + i)))] := hl
        refine lv_goto (tgt := 2) hx hb dd_Q_leadsTo_18 rfl ?_
        refine lv_aload_nN hx hb dd_Q_leadsTo_2 rfl (lv_at hl 0 rfl) ?_
        refine lv_ifnullN (tgt := 21) hx hb dd_Q_leadsTo_3 rfl ?_
        refine lv_iconst (v := bd_b false) hx hb dd_Q_leadsTo_21 (by decide) ?_
        exact W.zret (ty := .boolean) hx hb hr (bd_b_nar _) (fun tt htt hWW => ⟨_, rfl, (by rw [← he, sp_l_eq (cl_tr hC) hy, if_neg (by omega), if_pos hj3]), htt⟩) (fun _ h => by cases h) dd_Q_leadsTo_22
      · refine lv_iconst (v := bd_b true) hx hb dd_Q_leadsTo_11 (by decide) ?_
        exact W.zret (ty := .boolean) hx hb hr (bd_b_nar _) (fun tt htt hWW => ⟨_, rfl, (by rw [← he, sp_l_eq (cl_tr hC) hy, if_pos (by omega)]), htt⟩) (fun _ h => by cases h) dd_Q_leadsTo_12
    · have hyl := cl_tl hC hy hj3
      refine lv_aload_n hx hb dd_Q_leadsTo_2 rfl (lv_at hl 1 rfl) ?_
      refine lv_ifnull hx hb dd_Q_leadsTo_3 ?_
      refine lv_aload_n hx hb dd_Q_leadsTo_6 rfl (lv_at hl 1 rfl) ?_
      refine lv_aload_n hx hb dd_Q_leadsTo_7 rfl (lv_at hl 0 rfl) ?_
      refine cw_acmp_ne (a := 8 + y) (b := 8 + i) (tgt := 13) hx hb hJ (hks.2.1 _ hy) (hks.2.1 _ hi) dd_Q_leadsTo_8 rfl (fun h8 => ?_) (fun h8 => ?_)
      · refine lv_aload_n hx hb dd_Q_leadsTo_13 rfl (lv_at hl 1 rfl) ?_
        refine cw_getk (k := 8 + y) (C := rn_Q) (T := ft_Q) (NF := 10) hx hb hts tw_fs_Q hown hK hP (hks.2.1 _ hy) (cw_CQ (Nat.lt_of_lt_of_le hy (cl_12 hC)) ad ca _ _ _ _) rfl 2 (by decide) (hts _ tw_fl_Q_13) rfl rfl (cl_t1 hC hy hj3) dd_Q_leadsTo_14 ?_
        refine lv_astore_n hx hb dd_Q_leadsTo_17 rfl hl (by decide) rfl (fun ls hl => ?_)
        have hl : lv_has ls 3 [(2, .ref (ad (8 + N 2 y))), (1, .ref (ad (8 + i)))] := hl
        refine lv_goto (tgt := 2) hx hb dd_Q_leadsTo_18 rfl ?_
        exact ih ls (by rw [← he, sp_l_eq (cl_tr hC) hy, if_neg (by omega), if_neg (by omega)]) (lv_sub hl [1, 0] rfl)
      · refine lv_iconst (v := bd_b true) hx hb dd_Q_leadsTo_11 (by decide) ?_
        exact W.zret (ty := .boolean) hx hb hr (bd_b_nar _) (fun tt htt hWW => ⟨_, rfl, (by rw [← he, sp_l_eq (cl_tr hC) hy, if_pos (by omega)]), htt⟩) (fun _ h => by cases h) dd_Q_leadsTo_12
  refine lv_aload_n hx hb dd_Q_leadsTo_0 rfl (lv_at hl 0 rfl) ?_
  refine lv_astore_n hx hb dd_Q_leadsTo_1 rfl hl (by decide) rfl (fun ls hl => ?_)
  have hl : lv_has ls 3 [(2, .ref (ad (8 + j))), (0, .ref (ad (8 + j))), (1, .ref (ad (8 + i)))] := hl
  exact lp j hj ls rfl (lv_sub hl [2, 0] rfl)

theorem sp_r_up {N : sp_N} (hT : sp_Tr N) {y : Nat} (hy : y < N 1 0) (h3 : 3 ≤ y) : sp_r N (N 2 y) = sp_r N y := by
  have e0 : sp_l N y 0 = sp_l N (N 2 y) 0 := by rw [sp_l_eq hT hy, if_neg (by omega), if_neg (by omega)]
  have e1 : sp_l N y 1 = sp_l N (N 2 y) 1 := by rw [sp_l_eq hT hy, if_neg (by omega), if_neg (by omega)]
  unfold sp_r
  rw [e0, e1]
theorem sp_r_lo {N : sp_N} (hT : sp_Tr N) {y : Nat} (hy : y < N 1 0) (h3 : y < 3) : sp_r N y = y := by
  unfold sp_r
  rw [sp_l_eq hT hy 0, sp_l_eq hT hy 1]
  rcases (show y = 0 ∨ y = 1 ∨ y = 2 by omega) with rfl | rfl | rfl <;> simp
set_option maxHeartbeats 4000000 in
set_option maxRecDepth 100000 in
theorem cc_Q_quality (l : Launch) (D : va_G) (ks : List Nat) (ad : Nat → Nat) (ca : Nat → ClassId) (M : sp_N) (X : sp_B) (F : sp_O) (G : sp_Z) (N : sp_N) (O : sp_O) (B : sp_B) (hC : cl_S M X F N O B) (hks : cl_k ks N) (hMB : cl_B M) (j : Nat) (hj : j < N 1 0) : Met l my_Q_quality (Cond.code my_Q_quality cd_Q_quality 3 (some .int) :: bg_tbl) ({ frames := 0, cells := 0, slots := 0, locals := 0 }) (va_Pc [.ref (ad (8 + j))] (cw_U D ks ad ca M X F G)) (vp_Si (fun r => r = nI (sp_r N j))) 0 0 (fun _ => False) := by
  refine Met.ofW (cc := cd_Q_quality) (maxL := 3) (ret := (some .int)) (by decide) rfl ?_
  intro p e s m args below meth c s₁ BB hml hv
  obtain ⟨rfl, hP, hK⟩ := hv
  have hx := BB.exec
  have hb := BB.bytes
  have hr := BB.returns
  have hts : ∀ w ∈ bg_tbl, w.before ([.ref (ad (8 + j))] : List Value).toArray s = true := fun w h => atoms_spec (ws := (Cond.code my_Q_quality cd_Q_quality 3 (some .int) :: bg_tbl)) BB.pre w (List.mem_cons_of_mem _ h)
  have hown : s.vm.findClass rn_Q = some m.cls := findClass_of_methodNamed BB.named
  have hlocks := BB.notSynchronized
  have h12 := cl_12 hC
  have h160 := cl_160 hC
  have h3q := cl_3 hC
  have hM4 := cl_M4 hC
  have hM5 := cl_M5 hC
  have hl := lv_entry ([.ref (ad (8 + j))]) (n := 3) (Nat.le_of_ble_eq_true rfl)
  rw [lg_entry_eq]
  generalize (lg_sl ([.ref (ad (8 + j))]) ++ List.replicate (3 - (lg_sl ([.ref (ad (8 + j))])).length) Slot.unset).toArray = ls at hl ⊢
  have hl : lv_has ls 3 [(0, .ref (ad (8 + j)))] := hl
  have lp : ∀ y, y < N 1 0 → ∀ (z9 : Nat) (ls : Array Slot), (sp_r N y = sp_r N j) →  lv_has ls 3 [(1, .ref z9), (2, .ref (ad (8 + y)))] → W p l e (headSpec (Cond.code my_Q_quality cd_Q_quality 3 (some .int) :: bg_tbl) ({ frames := 0, cells := 0, slots := 0, locals := 0 })).room s m ([.ref (ad (8 + j))] : List Value).toArray below meth c s.heap [] 0 0 (MQ below (vp_Si (fun r => r = nI (sp_r N j))) ([.ref (ad (8 + j))] : List Value).toArray s 0 0 (fun _ => False)) (F0 m 4 ls []) := by
    refine sp_ind (cl_tr hC) (fun y hj3 z9 ls he hl => ?_) (fun y hj3 hy ih z9 ls he hl => ?_)
    · have hy : y < N 1 0 := by omega
      refine lv_aload_n hx hb dd_Q_quality_4 rfl (lv_at hl 1 rfl) ?_
      refine lv_ifnull hx hb dd_Q_quality_5 ?_
      refine lv_aload_n hx hb dd_Q_quality_8 rfl (lv_at hl 1 rfl) ?_
      refine lv_astore_n hx hb dd_Q_quality_9 rfl hl (by decide) rfl (fun ls hl => ?_)
      have hl : lv_has ls 3 [(1, .ref (ad (8 + y))), (2, .ref (ad (8 + y)))] := hl
      refine lv_aload_n hx hb dd_Q_quality_10 rfl (lv_at hl 1 rfl) ?_
      refine cw_getn (k := 8 + y) (C := rn_Q) (T := ft_Q) (NF := 10) hx hb hts tw_fs_Q hown hK hP (hks.2.1 _ hy) (cw_CQ (Nat.lt_of_lt_of_le hy (cl_12 hC)) ad ca _ _ _ _) rfl 2 (by decide) (hts _ tw_fl_Q_13) rfl rfl (cl_t0 hC hy hj3) dd_Q_quality_11 ?_
      refine lv_astore_nN hx hb dd_Q_quality_14 rfl hl (by decide) rfl (fun ls hl => ?_)
      have hl : lv_has ls 3 [(2, .null), (1, .ref (ad (8 + y)))] := hl
      refine lv_goto (tgt := 4) hx hb dd_Q_quality_15 rfl ?_
      refine lv_aload_nN hx hb dd_Q_quality_4 rfl (lv_at hl 0 rfl) ?_
      refine lv_ifnullN (tgt := 18) hx hb dd_Q_quality_5 rfl ?_
      refine lv_aload_n hx hb dd_Q_quality_18 rfl (lv_at hl 1 rfl) ?_
      refine cw_get1 (k := 8 + y) (C := rn_Q) (T := ft_Q) (NF := 10) (v := .int (nI (M (8 + y) 0))) hx hb hts tw_fs_Q hown hK hP (hks.2.1 _ hy) (cw_CQ (Nat.lt_of_lt_of_le hy (cl_12 hC)) ad ca _ _ _ _) rfl 0 (by decide) (hts _ tw_fl_Q_7) rfl rfl dd_Q_quality_19 ?_
      exact W.iret hx hb hr (fun tt htt hWW => ⟨_, rfl, (by rw [cl_qn hC hy, ← he, sp_r_lo (cl_tr hC) hy hj3]), htt⟩) (fun _ h => by cases h) dd_Q_quality_22
    · have hyl := cl_tl hC hy hj3
      refine lv_aload_n hx hb dd_Q_quality_4 rfl (lv_at hl 1 rfl) ?_
      refine lv_ifnull hx hb dd_Q_quality_5 ?_
      refine lv_aload_n hx hb dd_Q_quality_8 rfl (lv_at hl 1 rfl) ?_
      refine lv_astore_n hx hb dd_Q_quality_9 rfl hl (by decide) rfl (fun ls hl => ?_)
      have hl : lv_has ls 3 [(1, .ref (ad (8 + y))), (2, .ref (ad (8 + y)))] := hl
      refine lv_aload_n hx hb dd_Q_quality_10 rfl (lv_at hl 1 rfl) ?_
      refine cw_getk (k := 8 + y) (C := rn_Q) (T := ft_Q) (NF := 10) hx hb hts tw_fs_Q hown hK hP (hks.2.1 _ hy) (cw_CQ (Nat.lt_of_lt_of_le hy (cl_12 hC)) ad ca _ _ _ _) rfl 2 (by decide) (hts _ tw_fl_Q_13) rfl rfl (cl_t1 hC hy hj3) dd_Q_quality_11 ?_
      refine lv_astore_n hx hb dd_Q_quality_14 rfl hl (by decide) rfl (fun ls hl => ?_)
      have hl : lv_has ls 3 [(2, .ref (ad (8 + N 2 y))), (1, .ref (ad (8 + y)))] := hl
      refine lv_goto (tgt := 4) hx hb dd_Q_quality_15 rfl ?_
      exact ih _ ls (by rw [← he, sp_r_up (cl_tr hC) hy hj3]) (lv_sub hl [1, 0] rfl)
  refine lv_aload_n hx hb dd_Q_quality_0 rfl (lv_at hl 0 rfl) ?_
  refine lv_astore_n hx hb dd_Q_quality_1 rfl hl (by decide) rfl (fun ls hl => ?_)
  have hl : lv_has ls 3 [(1, .ref (ad (8 + j))), (0, .ref (ad (8 + j)))] := hl
  refine lv_aload_n hx hb dd_Q_quality_2 rfl (lv_at hl 1 rfl) ?_
  refine lv_astore_n hx hb dd_Q_quality_3 rfl hl (by decide) rfl (fun ls hl => ?_)
  have hl : lv_has ls 3 [(2, .ref (ad (8 + j))), (1, .ref (ad (8 + j))), (0, .ref (ad (8 + j)))] := hl
  exact lp j hj _ ls rfl (lv_sub hl [1, 0] rfl)

set_option maxHeartbeats 4000000 in
set_option maxRecDepth 100000 in
theorem cc_B_goesBefore (l : Launch) (D : va_G) (ks : List Nat) (ad : Nat → Nat) (ca : Nat → ClassId) (M : sp_N) (X : sp_B) (F : sp_O) (G : sp_Z) (N : sp_N) (O : sp_O) (B : sp_B) (hC : cl_S M X F N O B) (hks : cl_k ks N) (hMB : cl_B M) (t u : Nat) (ht : t < N 6 0) (hu : u < N 6 0) : Met l my_B_goesBefore (Cond.code my_B_goesBefore cd_B_goesBefore 4 (some .boolean) :: bg_tbl) ({ frames := 1, cells := 0, slots := 0, locals := 22 }) (va_Pc [.ref (ad (20 + t)), .ref (ad (20 + u))] (cw_U D ks ad ca M X F G)) (vp_Si (fun r => r = bd_b (cs_bf M N t u))) 0 0 (fun _ => False) := by
  refine Met.ofW (cc := cd_B_goesBefore) (maxL := 4) (ret := (some .boolean)) (by decide) rfl ?_
  intro p e s m args below meth c s₁ BB hml hv
  obtain ⟨rfl, hP, hK⟩ := hv
  have hx := BB.exec
  have hb := BB.bytes
  have hr := BB.returns
  have hts : ∀ w ∈ bg_tbl, w.before ([.ref (ad (20 + t)), .ref (ad (20 + u))] : List Value).toArray s = true := fun w h => atoms_spec (ws := (Cond.code my_B_goesBefore cd_B_goesBefore 4 (some .boolean) :: bg_tbl)) BB.pre w (List.mem_cons_of_mem _ h)
  have hown : s.vm.findClass rn_B = some m.cls := findClass_of_methodNamed BB.named
  have hlocks := BB.notSynchronized
  have h12 := cl_12 hC
  have h160 := cl_160 hC
  have h3q := cl_3 hC
  have hM4 := cl_M4 hC
  have hM5 := cl_M5 hC
  have hl := lv_entry ([.ref (ad (20 + t)), .ref (ad (20 + u))]) (n := 4) (Nat.le_of_ble_eq_true rfl)
  rw [lg_entry_eq]
  generalize (lg_sl ([.ref (ad (20 + t)), .ref (ad (20 + u))]) ++ List.replicate (4 - (lg_sl ([.ref (ad (20 + t)), .ref (ad (20 + u))])).length) Slot.unset).toArray = ls at hl ⊢
  have hl : lv_has ls 4 [(0, .ref (ad (20 + t))), (1, .ref (ad (20 + u)))] := hl
  refine lv_aload_n hx hb dd_B_goesBefore_0 rfl (lv_at hl 0 rfl) ?_
  refine cw_getk (k := 20 + t) (C := rn_B) (T := ft_B) (NF := 11) hx hb hts tw_fs_B hown hK hP (hks.2.2 _ ht) (cw_CB _ ad ca _ _ _ _) rfl 1 (by decide) (hts _ tw_fl_B_15) rfl rfl (cl_h hC ht) dd_B_goesBefore_1 ?_
  refine cw_calli (k := 8 + N 7 t) (C := rn_Q) (T := ft_Q) (NF := 10) (As := []) (rest := []) (v := nI (sp_r N (N 7 t))) ⟨hx, hb, hml, hown, hts⟩ (cc_Q_quality l D ks ad ca M X F G N O B hC hks hMB (N 7 t) (cl_hl hC ht)) (bg_cwV 0 hts tw_ml_B_47 tw_im_Q_quality tw_se_Q_quality tw_in_Q tw_co_Q_quality rfl rfl th_Q_quality ⟨Nat.le_of_ble_eq_true rfl, Nat.le_of_ble_eq_true rfl⟩) hK hP (hks.2.1 _ (cl_hl hC ht)) (cw_CQ (Nat.lt_of_lt_of_le (cl_hl hC ht) (cl_12 hC)) ad ca _ _ _ _) rfl rfl hl.1 rfl (by decide) dd_B_goesBefore_4 ⟨Nat.zero_le _, Nat.zero_le _⟩ ?_
  refine lv_istore_n hx hb dd_B_goesBefore_7 rfl hl (by decide) rfl (fun ls hl => ?_)
  have hl : lv_has ls 4 [(2, .int (nI (sp_r N (N 7 t)))), (0, .ref (ad (20 + t))), (1, .ref (ad (20 + u)))] := hl
  refine lv_aload_n hx hb dd_B_goesBefore_8 rfl (lv_at hl 2 rfl) ?_
  refine cw_getk (k := 20 + u) (C := rn_B) (T := ft_B) (NF := 11) hx hb hts tw_fs_B hown hK hP (hks.2.2 _ hu) (cw_CB _ ad ca _ _ _ _) rfl 1 (by decide) (hts _ tw_fl_B_15) rfl rfl (cl_h hC hu) dd_B_goesBefore_9 ?_
  refine cw_calli (k := 8 + N 7 u) (C := rn_Q) (T := ft_Q) (NF := 10) (As := []) (rest := []) (v := nI (sp_r N (N 7 u))) ⟨hx, hb, hml, hown, hts⟩ (cc_Q_quality l D ks ad ca M X F G N O B hC hks hMB (N 7 u) (cl_hl hC hu)) (bg_cwV 0 hts tw_ml_B_47 tw_im_Q_quality tw_se_Q_quality tw_in_Q tw_co_Q_quality rfl rfl th_Q_quality ⟨Nat.le_of_ble_eq_true rfl, Nat.le_of_ble_eq_true rfl⟩) hK hP (hks.2.1 _ (cl_hl hC hu)) (cw_CQ (Nat.lt_of_lt_of_le (cl_hl hC hu) (cl_12 hC)) ad ca _ _ _ _) rfl rfl hl.1 rfl (by decide) dd_B_goesBefore_12 ⟨Nat.zero_le _, Nat.zero_le _⟩ ?_
  refine lv_istore_n hx hb dd_B_goesBefore_15 rfl hl (by decide) rfl (fun ls hl => ?_)
  have hl : lv_has ls 4 [(3, .int (nI (sp_r N (N 7 u)))), (2, .int (nI (sp_r N (N 7 t)))), (0, .ref (ad (20 + t))), (1, .ref (ad (20 + u)))] := hl
  refine lv_iload_n hx hb dd_B_goesBefore_16 rfl (lv_at hl 1 rfl) ?_
  refine lv_iload_n hx hb dd_B_goesBefore_17 rfl (lv_at hl 0 rfl) ?_
  refine bq_gt (tgt := 37) hx hb (Nat.lt_trans (sp_r_lt _ _) (by decide)) (Nat.lt_trans (sp_r_lt _ _) (by decide)) dd_B_goesBefore_18 rfl (fun h18 => ?_) (fun h18 => ?_)
  · refine lv_iconst (v := bd_b true) hx hb dd_B_goesBefore_37 (by decide) ?_
    refine lv_goto (tgt := 42) hx hb dd_B_goesBefore_38 rfl ?_
    exact W.zret (ty := .boolean) hx hb hr (bd_b_nar _) (fun tt htt hWW => ⟨_, rfl, (by simp [cs_bf, h18, Nat.not_le.mpr h18]), htt⟩) (fun _ h => by cases h) dd_B_goesBefore_42
  · refine lv_iload_n hx hb dd_B_goesBefore_21 rfl (lv_at hl 1 rfl) ?_
    refine lv_iload_n hx hb dd_B_goesBefore_22 rfl (lv_at hl 0 rfl) ?_
    refine bq_ne (tgt := 41) hx hb (Nat.lt_trans (sp_r_lt _ _) (by decide)) (Nat.lt_trans (sp_r_lt _ _) (by decide)) dd_B_goesBefore_23 rfl (fun h23 => ?_) (fun h23 => ?_)
    · refine lv_iconst (v := bd_b false) hx hb dd_B_goesBefore_41 (by decide) ?_
      exact W.zret (ty := .boolean) hx hb hr (bd_b_nar _) (fun tt htt hWW => ⟨_, rfl, (by simp [cs_bf, h18, Nat.not_lt.mpr h18, h23]), htt⟩) (fun _ h => by cases h) dd_B_goesBefore_42
    · refine lv_aload_n hx hb dd_B_goesBefore_26 rfl (lv_at hl 2 rfl) ?_
      refine cw_get1 (k := 20 + t) (C := rn_B) (T := ft_B) (NF := 11) (v := .int (nI (M (20 + t) 9))) hx hb hts tw_fs_B hown hK hP (hks.2.2 _ ht) (cw_CB _ ad ca _ _ _ _) rfl 9 (by decide) (hts _ tw_fl_B_51) rfl rfl dd_B_goesBefore_27 ?_
      refine lv_aload_n hx hb dd_B_goesBefore_30 rfl (lv_at hl 3 rfl) ?_
      refine cw_get1 (k := 20 + u) (C := rn_B) (T := ft_B) (NF := 11) (v := .int (nI (M (20 + u) 9))) hx hb hts tw_fs_B hown hK hP (hks.2.2 _ hu) (cw_CB _ ad ca _ _ _ _) rfl 9 (by decide) (hts _ tw_fl_B_51) rfl rfl dd_B_goesBefore_31 ?_
      refine bq_ge (tgt := 41) hx hb (hMB _ _) (hMB _ _) dd_B_goesBefore_34 rfl (fun h34 => ?_) (fun h34 => ?_)
      · refine lv_iconst (v := bd_b false) hx hb dd_B_goesBefore_41 (by decide) ?_
        exact W.zret (ty := .boolean) hx hb hr (bd_b_nar _) (fun tt htt hWW => ⟨_, rfl, (by simp [cs_bf, h18, Nat.not_lt.mpr h18, h23, h34, Nat.not_lt.mpr h34]), htt⟩) (fun _ h => by cases h) dd_B_goesBefore_42
      · refine lv_iconst (v := bd_b true) hx hb dd_B_goesBefore_37 (by decide) ?_
        refine lv_goto (tgt := 42) hx hb dd_B_goesBefore_38 rfl ?_
        exact W.zret (ty := .boolean) hx hb hr (bd_b_nar _) (fun tt htt hWW => ⟨_, rfl, (by simp [cs_bf, h18, Nat.not_lt.mpr h18, h23, h34, Nat.not_le.mpr h34]), htt⟩) (fun _ h => by cases h) dd_B_goesBefore_42

set_option maxHeartbeats 4000000 in
set_option maxRecDepth 100000 in
theorem cc_B_isLetIn (l : Launch) (D : va_G) (ks : List Nat) (ad : Nat → Nat) (ca : Nat → ClassId) (M : sp_N) (X : sp_B) (F : sp_O) (G : sp_Z) (N : sp_N) (O : sp_O) (B : sp_B) (hC : cl_S M X F N O B) (hks : cl_k ks N) (hMB : cl_B M) (hJ : cw_J ks ad) (t : Nat) (ht : t < N 6 0) : Met l my_B_isLetIn (Cond.code my_B_isLetIn cd_B_isLetIn 2 (some .boolean) :: bg_tbl) ({ frames := 2, cells := 0, slots := 0, locals := 40 }) (va_Pc [.ref (ad (20 + t))] (cw_U D ks ad ca M X F G)) (vp_Si (fun r => r = bd_b (cs_in M X F N t))) 0 0 (fun _ => False) := by
  refine Met.ofW (cc := cd_B_isLetIn) (maxL := 2) (ret := (some .boolean)) (by decide) rfl ?_
  intro p e s m args below meth c s₁ BB hml hv
  obtain ⟨rfl, hP, hK⟩ := hv
  have hx := BB.exec
  have hb := BB.bytes
  have hr := BB.returns
  have hts : ∀ w ∈ bg_tbl, w.before ([.ref (ad (20 + t))] : List Value).toArray s = true := fun w h => atoms_spec (ws := (Cond.code my_B_isLetIn cd_B_isLetIn 2 (some .boolean) :: bg_tbl)) BB.pre w (List.mem_cons_of_mem _ h)
  have hown : s.vm.findClass rn_B = some m.cls := findClass_of_methodNamed BB.named
  have hlocks := BB.notSynchronized
  have h12 := cl_12 hC
  have h160 := cl_160 hC
  have h3q := cl_3 hC
  have hM4 := cl_M4 hC
  have hM5 := cl_M5 hC
  have hl := lv_entry ([.ref (ad (20 + t))]) (n := 2) (Nat.le_of_ble_eq_true rfl)
  rw [lg_entry_eq]
  generalize (lg_sl ([.ref (ad (20 + t))]) ++ List.replicate (2 - (lg_sl ([.ref (ad (20 + t))])).length) Slot.unset).toArray = ls at hl ⊢
  have hl : lv_has ls 2 [(0, .ref (ad (20 + t)))] := hl
  have lp : ∀ y, y < N 1 0 → ∀  (ls : Array Slot), ((!(sp_a (fun x => sp_l N y x && cs_no M X F (N 7 t) x) (N 1 0))) = cs_in M X F N t) →  lv_has ls 2 [(0, .ref (ad (20 + t))), (1, .ref (ad (8 + y)))] → W p l e (headSpec (Cond.code my_B_isLetIn cd_B_isLetIn 2 (some .boolean) :: bg_tbl) ({ frames := 2, cells := 0, slots := 0, locals := 40 })).room s m ([.ref (ad (20 + t))] : List Value).toArray below meth c s.heap [] 0 0 (MQ below (vp_Si (fun r => r = bd_b (cs_in M X F N t))) ([.ref (ad (20 + t))] : List Value).toArray s 0 0 (fun _ => False)) (F0 m 24 ls []) := by
    refine sp_ind (cl_tr hC) (fun y hj3  ls he hl => ?_) (fun y hj3 hy ih  ls he hl => ?_)
    · have hy : y < N 1 0 := by omega
      refine lv_aload_n hx hb dd_B_isLetIn_24 rfl (lv_at hl 1 rfl) ?_
      refine lv_ifnull hx hb dd_B_isLetIn_25 ?_
      refine lv_aload_n hx hb dd_B_isLetIn_28 rfl (lv_at hl 1 rfl) ?_
      refine cw_get1 (k := 8 + y) (C := rn_Q) (T := ft_Q) (NF := 10) (v := .int (nI (M (8 + y) 3))) hx hb hts tw_fs_Q hown hK hP (hks.2.1 _ hy) (cw_CQ (Nat.lt_of_lt_of_le hy (cl_12 hC)) ad ca _ _ _ _) rfl 3 (by decide) (hts _ tw_fl_B_31) rfl rfl dd_B_isLetIn_29 ?_
      refine bq_ngt (tgt := 49) hx hb (hMB _ _) dd_B_isLetIn_32 rfl (fun h32 => ?_) (fun h32 => ?_)
      · refine lv_iconst (v := bd_b false) hx hb dd_B_isLetIn_49 (by decide) ?_
        exact W.zret (ty := .boolean) hx hb hr (bd_b_nar _) (fun tt htt hWW => ⟨_, rfl, (by rw [← he, sp_any (cl_tr hC) _ hy, show cs_no M X F (N 7 t) y = true by simp [cs_no, hj3, h32, Nat.not_le.mpr h32]]; rfl), htt⟩) (fun _ h => by cases h) dd_B_isLetIn_50
      · refine lv_aload_n hx hb dd_B_isLetIn_35 rfl (lv_at hl 1 rfl) ?_
        refine cw_calli (k := 8 + y) (C := rn_Q) (T := ft_Q) (NF := 10) (As := []) (rest := []) (v := bd_b (cs_rm M y)) ⟨hx, hb, hml, hown, hts⟩ (cc_Q_hasRoom l D ks ad ca M X F G N O B hC hks hMB y hy) (bg_cwV 0 hts tw_ml_B_34 tw_im_Q_hasRoom tw_se_Q_hasRoom tw_in_Q tw_co_Q_hasRoom rfl rfl th_Q_hasRoom ⟨Nat.le_of_ble_eq_true rfl, Nat.le_of_ble_eq_true rfl⟩) hK hP (hks.2.1 _ hy) (cw_CQ (Nat.lt_of_lt_of_le hy (cl_12 hC)) ad ca _ _ _ _) rfl rfl hl.1 rfl (by decide) dd_B_isLetIn_36 ⟨Nat.zero_le _, Nat.zero_le _⟩ ?_
        refine bq_zeq (tgt := 49) hx hb dd_B_isLetIn_39 rfl (fun h39 => ?_) (fun h39 => ?_)
        · refine lv_iconst (v := bd_b false) hx hb dd_B_isLetIn_49 (by decide) ?_
          exact W.zret (ty := .boolean) hx hb hr (bd_b_nar _) (fun tt htt hWW => ⟨_, rfl, (by rw [← he, sp_any (cl_tr hC) _ hy, show cs_no M X F (N 7 t) y = true by simp [cs_no, hj3, h32, h39]]; rfl), htt⟩) (fun _ h => by cases h) dd_B_isLetIn_50
        · refine lv_aload_n hx hb dd_B_isLetIn_42 rfl (lv_at hl 1 rfl) ?_
          refine cw_get1 (k := 8 + y) (C := rn_Q) (T := ft_Q) (NF := 10) (v := .int (bd_b (X (8 + y) 9))) hx hb hts tw_fs_Q hown hK hP (hks.2.1 _ hy) (cw_CQ (Nat.lt_of_lt_of_le hy (cl_12 hC)) ad ca _ _ _ _) rfl 9 (by decide) (hts _ tw_fl_B_38) rfl rfl dd_B_isLetIn_43 ?_
          refine bq_zeq (tgt := 51) hx hb dd_B_isLetIn_46 rfl (fun h46 => ?_) (fun h46 => ?_)
          · refine lv_aload_n hx hb dd_B_isLetIn_51 rfl (lv_at hl 1 rfl) ?_
            refine lv_aload_n hx hb dd_B_isLetIn_52 rfl (lv_at hl 0 rfl) ?_
            refine cw_getk (k := 20 + t) (C := rn_B) (T := ft_B) (NF := 11) hx hb hts tw_fs_B hown hK hP (hks.2.2 _ ht) (cw_CB _ ad ca _ _ _ _) rfl 1 (by decide) (hts _ tw_fl_B_15) rfl rfl (cl_h hC ht) dd_B_isLetIn_53 ?_
            refine cw_acmp_eq (a := 8 + y) (b := 8 + N 7 t) (tgt := 68) hx hb hJ (hks.2.1 _ hy) (hks.2.1 _ (cl_hl hC ht)) dd_B_isLetIn_56 rfl (fun h56 => ?_) (fun h56 => ?_)
            · have h56 : y = N 7 t := by omega
              refine lv_aload_n hx hb dd_B_isLetIn_68 rfl (lv_at hl 1 rfl) ?_
              refine cw_getn (k := 8 + y) (C := rn_Q) (T := ft_Q) (NF := 10) hx hb hts tw_fs_Q hown hK hP (hks.2.1 _ hy) (cw_CQ (Nat.lt_of_lt_of_le hy (cl_12 hC)) ad ca _ _ _ _) rfl 2 (by decide) (hts _ tw_fl_B_44) rfl rfl (cl_t0 hC hy hj3) dd_B_isLetIn_69 ?_
              refine lv_astore_nN hx hb dd_B_isLetIn_72 rfl hl (by decide) rfl (fun ls hl => ?_)
              have hl : lv_has ls 2 [(1, .null), (0, .ref (ad (20 + t)))] := hl
              refine lv_goto (tgt := 24) hx hb dd_B_isLetIn_73 rfl ?_
              refine lv_aload_nN hx hb dd_B_isLetIn_24 rfl (lv_at hl 0 rfl) ?_
              refine lv_ifnullN (tgt := 76) hx hb dd_B_isLetIn_25 rfl ?_
              refine lv_iconst (v := bd_b true) hx hb dd_B_isLetIn_76 (by decide) ?_
              exact W.zret (ty := .boolean) hx hb hr (bd_b_nar _) (fun tt htt hWW => ⟨_, rfl, (by rw [← he, sp_any (cl_tr hC) _ hy, show cs_no M X F (N 7 t) y = false by simp [cs_no, h32, h39, h46, decide_eq_true h56], decide_eq_false (by omega)]; rfl), htt⟩) (fun _ h => by cases h) dd_B_isLetIn_77
            · have h56 : y ≠ N 7 t := by omega
              refine lv_aload_n hx hb dd_B_isLetIn_59 rfl (lv_at hl 1 rfl) ?_
              refine cw_calli (k := 8 + y) (C := rn_Q) (T := ft_Q) (NF := 10) (As := []) (rest := []) (v := bd_b (cs_cl X F y)) ⟨hx, hb, hml, hown, hts⟩ (cc_Q_isClosed l D ks ad ca M X F G N O B hC hks hMB y hy) (bg_cwV 0 hts tw_ml_B_41 tw_im_Q_isClosed tw_se_Q_isClosed tw_in_Q tw_co_Q_isClosed rfl rfl th_Q_isClosed ⟨Nat.le_of_ble_eq_true rfl, Nat.le_of_ble_eq_true rfl⟩) hK hP (hks.2.1 _ hy) (cw_CQ (Nat.lt_of_lt_of_le hy (cl_12 hC)) ad ca _ _ _ _) rfl rfl hl.1 rfl (by decide) dd_B_isLetIn_60 ⟨Nat.zero_le _, Nat.zero_le _⟩ ?_
              refine bq_zeq (tgt := 68) hx hb dd_B_isLetIn_63 rfl (fun h63 => ?_) (fun h63 => ?_)
              · refine lv_aload_n hx hb dd_B_isLetIn_68 rfl (lv_at hl 1 rfl) ?_
                refine cw_getn (k := 8 + y) (C := rn_Q) (T := ft_Q) (NF := 10) hx hb hts tw_fs_Q hown hK hP (hks.2.1 _ hy) (cw_CQ (Nat.lt_of_lt_of_le hy (cl_12 hC)) ad ca _ _ _ _) rfl 2 (by decide) (hts _ tw_fl_B_44) rfl rfl (cl_t0 hC hy hj3) dd_B_isLetIn_69 ?_
                refine lv_astore_nN hx hb dd_B_isLetIn_72 rfl hl (by decide) rfl (fun ls hl => ?_)
                have hl : lv_has ls 2 [(1, .null), (0, .ref (ad (20 + t)))] := hl
                refine lv_goto (tgt := 24) hx hb dd_B_isLetIn_73 rfl ?_
                refine lv_aload_nN hx hb dd_B_isLetIn_24 rfl (lv_at hl 0 rfl) ?_
                refine lv_ifnullN (tgt := 76) hx hb dd_B_isLetIn_25 rfl ?_
                refine lv_iconst (v := bd_b true) hx hb dd_B_isLetIn_76 (by decide) ?_
                exact W.zret (ty := .boolean) hx hb hr (bd_b_nar _) (fun tt htt hWW => ⟨_, rfl, (by rw [← he, sp_any (cl_tr hC) _ hy, show cs_no M X F (N 7 t) y = false by simp [cs_no, h32, h39, h46, decide_eq_false h56, h63], decide_eq_false (by omega)]; rfl), htt⟩) (fun _ h => by cases h) dd_B_isLetIn_77
              · refine lv_iconst (v := bd_b false) hx hb dd_B_isLetIn_66 (by decide) ?_
                exact W.zret (ty := .boolean) hx hb hr (bd_b_nar _) (fun tt htt hWW => ⟨_, rfl, (by rw [← he, sp_any (cl_tr hC) _ hy, show cs_no M X F (N 7 t) y = true by simp [cs_no, h32, h39, h46, decide_eq_false h56, h63]]; rfl), htt⟩) (fun _ h => by cases h) dd_B_isLetIn_67
          · refine lv_iconst (v := bd_b false) hx hb dd_B_isLetIn_49 (by decide) ?_
            exact W.zret (ty := .boolean) hx hb hr (bd_b_nar _) (fun tt htt hWW => ⟨_, rfl, (by rw [← he, sp_any (cl_tr hC) _ hy, show cs_no M X F (N 7 t) y = true by simp [cs_no, hj3, h32, h39, h46]]; rfl), htt⟩) (fun _ h => by cases h) dd_B_isLetIn_50
    · have hyl := cl_tl hC hy hj3
      refine lv_aload_n hx hb dd_B_isLetIn_24 rfl (lv_at hl 1 rfl) ?_
      refine lv_ifnull hx hb dd_B_isLetIn_25 ?_
      refine lv_aload_n hx hb dd_B_isLetIn_28 rfl (lv_at hl 1 rfl) ?_
      refine cw_get1 (k := 8 + y) (C := rn_Q) (T := ft_Q) (NF := 10) (v := .int (nI (M (8 + y) 3))) hx hb hts tw_fs_Q hown hK hP (hks.2.1 _ hy) (cw_CQ (Nat.lt_of_lt_of_le hy (cl_12 hC)) ad ca _ _ _ _) rfl 3 (by decide) (hts _ tw_fl_B_31) rfl rfl dd_B_isLetIn_29 ?_
      refine bq_ngt (tgt := 49) hx hb (hMB _ _) dd_B_isLetIn_32 rfl (fun h32 => ?_) (fun h32 => ?_)
      · refine lv_iconst (v := bd_b false) hx hb dd_B_isLetIn_49 (by decide) ?_
        exact W.zret (ty := .boolean) hx hb hr (bd_b_nar _) (fun tt htt hWW => ⟨_, rfl, (by rw [← he, sp_any (cl_tr hC) _ hy, show cs_no M X F (N 7 t) y = true by simp [cs_no, hj3, h32, Nat.not_le.mpr h32]]; rfl), htt⟩) (fun _ h => by cases h) dd_B_isLetIn_50
      · refine lv_aload_n hx hb dd_B_isLetIn_35 rfl (lv_at hl 1 rfl) ?_
        refine cw_calli (k := 8 + y) (C := rn_Q) (T := ft_Q) (NF := 10) (As := []) (rest := []) (v := bd_b (cs_rm M y)) ⟨hx, hb, hml, hown, hts⟩ (cc_Q_hasRoom l D ks ad ca M X F G N O B hC hks hMB y hy) (bg_cwV 0 hts tw_ml_B_34 tw_im_Q_hasRoom tw_se_Q_hasRoom tw_in_Q tw_co_Q_hasRoom rfl rfl th_Q_hasRoom ⟨Nat.le_of_ble_eq_true rfl, Nat.le_of_ble_eq_true rfl⟩) hK hP (hks.2.1 _ hy) (cw_CQ (Nat.lt_of_lt_of_le hy (cl_12 hC)) ad ca _ _ _ _) rfl rfl hl.1 rfl (by decide) dd_B_isLetIn_36 ⟨Nat.zero_le _, Nat.zero_le _⟩ ?_
        refine bq_zeq (tgt := 49) hx hb dd_B_isLetIn_39 rfl (fun h39 => ?_) (fun h39 => ?_)
        · refine lv_iconst (v := bd_b false) hx hb dd_B_isLetIn_49 (by decide) ?_
          exact W.zret (ty := .boolean) hx hb hr (bd_b_nar _) (fun tt htt hWW => ⟨_, rfl, (by rw [← he, sp_any (cl_tr hC) _ hy, show cs_no M X F (N 7 t) y = true by simp [cs_no, hj3, h32, h39]]; rfl), htt⟩) (fun _ h => by cases h) dd_B_isLetIn_50
        · refine lv_aload_n hx hb dd_B_isLetIn_42 rfl (lv_at hl 1 rfl) ?_
          refine cw_get1 (k := 8 + y) (C := rn_Q) (T := ft_Q) (NF := 10) (v := .int (bd_b (X (8 + y) 9))) hx hb hts tw_fs_Q hown hK hP (hks.2.1 _ hy) (cw_CQ (Nat.lt_of_lt_of_le hy (cl_12 hC)) ad ca _ _ _ _) rfl 9 (by decide) (hts _ tw_fl_B_38) rfl rfl dd_B_isLetIn_43 ?_
          refine bq_zeq (tgt := 51) hx hb dd_B_isLetIn_46 rfl (fun h46 => ?_) (fun h46 => ?_)
          · refine lv_aload_n hx hb dd_B_isLetIn_51 rfl (lv_at hl 1 rfl) ?_
            refine lv_aload_n hx hb dd_B_isLetIn_52 rfl (lv_at hl 0 rfl) ?_
            refine cw_getk (k := 20 + t) (C := rn_B) (T := ft_B) (NF := 11) hx hb hts tw_fs_B hown hK hP (hks.2.2 _ ht) (cw_CB _ ad ca _ _ _ _) rfl 1 (by decide) (hts _ tw_fl_B_15) rfl rfl (cl_h hC ht) dd_B_isLetIn_53 ?_
            refine cw_acmp_eq (a := 8 + y) (b := 8 + N 7 t) (tgt := 68) hx hb hJ (hks.2.1 _ hy) (hks.2.1 _ (cl_hl hC ht)) dd_B_isLetIn_56 rfl (fun h56 => ?_) (fun h56 => ?_)
            · have h56 : y = N 7 t := by omega
              refine lv_aload_n hx hb dd_B_isLetIn_68 rfl (lv_at hl 1 rfl) ?_
              refine cw_getk (k := 8 + y) (C := rn_Q) (T := ft_Q) (NF := 10) hx hb hts tw_fs_Q hown hK hP (hks.2.1 _ hy) (cw_CQ (Nat.lt_of_lt_of_le hy (cl_12 hC)) ad ca _ _ _ _) rfl 2 (by decide) (hts _ tw_fl_B_44) rfl rfl (cl_t1 hC hy hj3) dd_B_isLetIn_69 ?_
              refine lv_astore_n hx hb dd_B_isLetIn_72 rfl hl (by decide) rfl (fun ls hl => ?_)
              have hl : lv_has ls 2 [(1, .ref (ad (8 + N 2 y))), (0, .ref (ad (20 + t)))] := hl
              refine lv_goto (tgt := 24) hx hb dd_B_isLetIn_73 rfl ?_
              exact ih ls (by rw [← he, sp_any (cl_tr hC) _ hy, show cs_no M X F (N 7 t) y = false by simp [cs_no, h32, h39, h46, decide_eq_true h56], decide_eq_true hj3]; rfl) (lv_sub hl [1, 0] rfl)
            · have h56 : y ≠ N 7 t := by omega
              refine lv_aload_n hx hb dd_B_isLetIn_59 rfl (lv_at hl 1 rfl) ?_
              refine cw_calli (k := 8 + y) (C := rn_Q) (T := ft_Q) (NF := 10) (As := []) (rest := []) (v := bd_b (cs_cl X F y)) ⟨hx, hb, hml, hown, hts⟩ (cc_Q_isClosed l D ks ad ca M X F G N O B hC hks hMB y hy) (bg_cwV 0 hts tw_ml_B_41 tw_im_Q_isClosed tw_se_Q_isClosed tw_in_Q tw_co_Q_isClosed rfl rfl th_Q_isClosed ⟨Nat.le_of_ble_eq_true rfl, Nat.le_of_ble_eq_true rfl⟩) hK hP (hks.2.1 _ hy) (cw_CQ (Nat.lt_of_lt_of_le hy (cl_12 hC)) ad ca _ _ _ _) rfl rfl hl.1 rfl (by decide) dd_B_isLetIn_60 ⟨Nat.zero_le _, Nat.zero_le _⟩ ?_
              refine bq_zeq (tgt := 68) hx hb dd_B_isLetIn_63 rfl (fun h63 => ?_) (fun h63 => ?_)
              · refine lv_aload_n hx hb dd_B_isLetIn_68 rfl (lv_at hl 1 rfl) ?_
                refine cw_getk (k := 8 + y) (C := rn_Q) (T := ft_Q) (NF := 10) hx hb hts tw_fs_Q hown hK hP (hks.2.1 _ hy) (cw_CQ (Nat.lt_of_lt_of_le hy (cl_12 hC)) ad ca _ _ _ _) rfl 2 (by decide) (hts _ tw_fl_B_44) rfl rfl (cl_t1 hC hy hj3) dd_B_isLetIn_69 ?_
                refine lv_astore_n hx hb dd_B_isLetIn_72 rfl hl (by decide) rfl (fun ls hl => ?_)
                have hl : lv_has ls 2 [(1, .ref (ad (8 + N 2 y))), (0, .ref (ad (20 + t)))] := hl
                refine lv_goto (tgt := 24) hx hb dd_B_isLetIn_73 rfl ?_
                exact ih ls (by rw [← he, sp_any (cl_tr hC) _ hy, show cs_no M X F (N 7 t) y = false by simp [cs_no, h32, h39, h46, decide_eq_false h56, h63], decide_eq_true hj3]; rfl) (lv_sub hl [1, 0] rfl)
              · refine lv_iconst (v := bd_b false) hx hb dd_B_isLetIn_66 (by decide) ?_
                exact W.zret (ty := .boolean) hx hb hr (bd_b_nar _) (fun tt htt hWW => ⟨_, rfl, (by rw [← he, sp_any (cl_tr hC) _ hy, show cs_no M X F (N 7 t) y = true by simp [cs_no, h32, h39, h46, decide_eq_false h56, h63]]; rfl), htt⟩) (fun _ h => by cases h) dd_B_isLetIn_67
          · refine lv_iconst (v := bd_b false) hx hb dd_B_isLetIn_49 (by decide) ?_
            exact W.zret (ty := .boolean) hx hb hr (bd_b_nar _) (fun tt htt hWW => ⟨_, rfl, (by rw [← he, sp_any (cl_tr hC) _ hy, show cs_no M X F (N 7 t) y = true by simp [cs_no, hj3, h32, h39, h46]]; rfl), htt⟩) (fun _ h => by cases h) dd_B_isLetIn_50
  refine lv_aload_n hx hb dd_B_isLetIn_0 rfl (lv_at hl 0 rfl) ?_
  refine cw_get1 (k := 20 + t) (C := rn_B) (T := ft_B) (NF := 11) (v := .int (bd_b (X (20 + t) 2))) hx hb hts tw_fs_B hown hK hP (hks.2.2 _ ht) (cw_CB _ ad ca _ _ _ _) rfl 2 (by decide) (hts _ tw_fl_B_19) rfl rfl dd_B_isLetIn_1 ?_
  refine bq_zeq (tgt := 19) hx hb dd_B_isLetIn_4 rfl (fun h4 => ?_) (fun h4 => ?_)
  · refine lv_aload_n hx hb dd_B_isLetIn_19 rfl (lv_at hl 0 rfl) ?_
    refine cw_getk (k := 20 + t) (C := rn_B) (T := ft_B) (NF := 11) hx hb hts tw_fs_B hown hK hP (hks.2.2 _ ht) (cw_CB _ ad ca _ _ _ _) rfl 1 (by decide) (hts _ tw_fl_B_15) rfl rfl (cl_h hC ht) dd_B_isLetIn_20 ?_
    refine lv_astore_n hx hb dd_B_isLetIn_23 rfl hl (by decide) rfl (fun ls hl => ?_)
    have hl : lv_has ls 2 [(1, .ref (ad (8 + N 7 t))), (0, .ref (ad (20 + t)))] := hl
    exact lp (N 7 t) (cl_hl hC ht) ls (by rw [cs_in, if_neg (by simp [h4])]) (lv_sub hl [1, 0] rfl)
  · refine lv_aload_n hx hb dd_B_isLetIn_7 rfl (lv_at hl 0 rfl) ?_
    refine cw_getk (k := 20 + t) (C := rn_B) (T := ft_B) (NF := 11) hx hb hts tw_fs_B hown hK hP (hks.2.2 _ ht) (cw_CB _ ad ca _ _ _ _) rfl 1 (by decide) (hts _ tw_fl_B_15) rfl rfl (cl_h hC ht) dd_B_isLetIn_8 ?_
    refine cw_get1 (k := 8 + N 7 t) (C := rn_Q) (T := ft_Q) (NF := 10) (v := .int (nI (M (8 + N 7 t) 7))) hx hb hts tw_fs_Q hown hK hP (hks.2.1 _ (cl_hl hC ht)) (cw_CQ (Nat.lt_of_lt_of_le (cl_hl hC ht) (cl_12 hC)) ad ca _ _ _ _) rfl 7 (by decide) (hts _ tw_fl_B_26) rfl rfl dd_B_isLetIn_11 ?_
    refine bq_nle (tgt := 19) hx hb (hMB _ _) dd_B_isLetIn_14 rfl (fun h14 => ?_) (fun h14 => ?_)
    · refine lv_aload_n hx hb dd_B_isLetIn_19 rfl (lv_at hl 0 rfl) ?_
      refine cw_getk (k := 20 + t) (C := rn_B) (T := ft_B) (NF := 11) hx hb hts tw_fs_B hown hK hP (hks.2.2 _ ht) (cw_CB _ ad ca _ _ _ _) rfl 1 (by decide) (hts _ tw_fl_B_15) rfl rfl (cl_h hC ht) dd_B_isLetIn_20 ?_
      refine lv_astore_n hx hb dd_B_isLetIn_23 rfl hl (by decide) rfl (fun ls hl => ?_)
      have hl : lv_has ls 2 [(1, .ref (ad (8 + N 7 t))), (0, .ref (ad (20 + t)))] := hl
      exact lp (N 7 t) (cl_hl hC ht) ls (by rw [cs_in, if_neg (by simp [h4, h14])]) (lv_sub hl [1, 0] rfl)
    · refine lv_iconst (v := bd_b false) hx hb dd_B_isLetIn_17 (by decide) ?_
      exact W.zret (ty := .boolean) hx hb hr (bd_b_nar _) (fun tt htt hWW => ⟨_, rfl, (by rw [cs_in, if_pos ⟨h4, h14⟩]), htt⟩) (fun _ h => by cases h) dd_B_isLetIn_18
end
section
/-! Part 23: what the class's own readers answer. -/
def cs_i (G : sp_Z) (o : Option Nat) (n : Nat) : Bool := match o with
  | none => true
  | some b => decide (G (20 + n) 8 < G (20 + b) 8)
def cs_d (M : sp_N) (G : sp_Z) : Nat → Option Nat
  | 0 => none
  | n + 1 => if M (20 + n) 3 = 1 ∧ G (20 + n) 8 ≤ G 0 8 ∧ cs_i G (cs_d M G n) n = true then some n else cs_d M G n
theorem cs_d_lt {M : sp_N} {G : sp_Z} {b : Nat} : ∀ {n : Nat}, cs_d M G n = some b → b < n
  | 0, h => by cases h
  | n + 1, h => by
    unfold cs_d at h
    split at h
    · cases h; omega
    · have := cs_d_lt h; omega
/-- the ticket of the first block of a line -/
def cs_f (F : sp_O) (j : Nat) : Option Nat := (F (8 + j) 4).map (fun k => k - 20)
def cs_mo (M : sp_N) (X : sp_B) (F : sp_O) (N : sp_N) (o : Option Nat) : Bool := match o with
  | none => false
  | some t => cs_ms M X F N t
def cs_e (M : sp_N) (N : sp_N) (o : Option Nat) (t : Nat) : Bool := match o with
  | none => true
  | some b => cs_bf M N t b
def cs_g (M : sp_N) (X : sp_B) (F : sp_O) (N : sp_N) (best f : Option Nat) : Option Nat := match f with
  | none => best
  | some t => if cs_ms M X F N t = true ∧ cs_e M N best t = true then some t else best
def cs_h (M : sp_N) (X : sp_B) (F : sp_O) (N : sp_N) : Nat → Option Nat
  | 0 => none
  | i + 1 => cs_g M X F N (cs_h M X F N i) (cs_f F i)
def cs_y (M : sp_N) (X : sp_B) (F : sp_O) (N : sp_N) : Nat := sp_c (fun i => cs_mo M X F N (cs_f F i)) (N 1 0)
def cs_ic (N : sp_N) (O : sp_O) (B : sp_B) (y : Nat) (sh : Bool) : Nat → Option Nat → Bool
  | 0, _ => false
  | _ + 1, none => false
  | n + 1, some c => if ((sh || (B 14 c && decide (N 7 c = y))) && sp_l N (N 7 c) y) = true then true else cs_ic N O B y sh n (O 9 c)
def cs_sh (M : sp_N) (j : Nat) (bar : Bool) (y : Nat) : Bool := decide (M (8 + y) 1 = 1) || (bar && decide (y = j))
def cs_dp (M : sp_N) (N : sp_N) (O : sp_O) (B : sp_B) (c j : Nat) (bar : Bool) (x : Nat) : Bool := decide (3 ≤ x) && cs_ic N O B x (cs_sh M j bar x) 160 (some c)
def cs_dk (M : sp_N) (N : sp_N) (O : sp_O) (B : sp_B) (c j : Nat) (bar : Bool) : Bool := sp_a (fun x => sp_l N j x && cs_dp M N O B c j bar x) (N 1 0)
def cs_dl (G : sp_Z) (d : Int64) : Int64 := if d < 9223372036854775807 - G 0 8 then G 0 8 + d else 9223372036854775807
def cs_q (M : sp_N) (o : Option Nat) (f : Nat) : Int32 := match o with
  | none => -1
  | some a => nI (M (8 + a) f)
def cs_ct (M : sp_N) (o : Option Nat) : Int32 := match o with
  | none => -2
  | some a => nI (M (4 + a) 0 + M (4 + a) 1)
def cs_st (M : sp_N) (X : sp_B) (o : Option Nat) : Int32 := match o with
  | none => -3
  | some a => nI (M (20 + a) 3 + (if X (20 + a) 4 = true then 8 else 0))
theorem bd_map_n {n b : Nat} {q : Int32} (h : (bd_at q n).map (fun j => b + j) = none) : bd_at q n = none := by
  cases ho : bd_at q n with
  | none => rfl
  | some a => rw [ho] at h; cases h
theorem bd_map_s {n b k : Nat} {q : Int32} (hn : n < 2 ^ 31) (h : (bd_at q n).map (fun j => b + j) = some k) : ∃ a, bd_at q n = some a ∧ a < n ∧ q = nI a ∧ k = b + a := by
  cases ho : bd_at q n with
  | none => rw [ho] at h; cases h
  | some a => rw [ho] at h; cases h; exact ⟨a, rfl, (bd_at_some hn ho).1, (bd_at_some hn ho).2, rfl⟩
theorem bd_mp_n {b : Nat} {o : Option Nat} (h : o.map (fun j => b + j) = none) : o = none := by
  cases ho : o with
  | none => rfl
  | some a => rw [ho] at h; cases h
theorem bd_mp_s {b k : Nat} {o : Option Nat} (h : o.map (fun j => b + j) = some k) : ∃ a, o = some a ∧ k = b + a := by
  cases ho : o with
  | none => rw [ho] at h; cases h
  | some a => rw [ho] at h; cases h; exact ⟨a, rfl, rfl⟩
end
section
/-! Part 24: the class: queueAt, blockAt, groupAt, isFull, nextDue, mayStart, choose, ready, queued, through, peak, count, state. By wip/gen/gen_cls2.py. -/
set_option maxHeartbeats 4000000 in
set_option maxRecDepth 100000 in
theorem cc_D_queueAt (l : Launch) (D : va_G) (ks : List Nat) (ad : Nat → Nat) (ca : Nat → ClassId) (M : sp_N) (X : sp_B) (F : sp_O) (G : sp_Z) (N : sp_N) (O : sp_O) (B : sp_B) (hC : cl_S M X F N O B) (hks : cl_k ks N) (hMB : cl_B M) (q : Int32) : Met l my_D_queueAt (Cond.code my_D_queueAt cd_D_queueAt 2 (some (.object "BarrierDispatch$Queue")) :: bg_tbl) ({ frames := 0, cells := 0, slots := 0, locals := 0 }) (va_Pc [.ref (ad 0), .int q] (cw_U D ks ad ca M X F G)) (va_Sq (fun r => r = ((bd_at q (N 1 0)).map (fun j => 8 + j)).map ad)) 0 0 (fun _ => False) := by
  refine Met.ofW (cc := cd_D_queueAt) (maxL := 2) (ret := (some (.object "BarrierDispatch$Queue"))) (by decide) rfl ?_
  intro p e s m args below meth c s₁ BB hml hv
  obtain ⟨rfl, hP, hK⟩ := hv
  have hx := BB.exec
  have hb := BB.bytes
  have hr := BB.returns
  have hts : ∀ w ∈ bg_tbl, w.before ([.ref (ad 0), .int q] : List Value).toArray s = true := fun w h => atoms_spec (ws := (Cond.code my_D_queueAt cd_D_queueAt 2 (some (.object "BarrierDispatch$Queue")) :: bg_tbl)) BB.pre w (List.mem_cons_of_mem _ h)
  have hown : s.vm.findClass rn_D = some m.cls := findClass_of_methodNamed BB.named
  have hlocks := BB.notSynchronized
  have h12 := cl_12 hC
  have h160 := cl_160 hC
  have h3q := cl_3 hC
  have hM4 := cl_M4 hC
  have hM5 := cl_M5 hC
  have hl := lv_entry ([.ref (ad 0), .int q]) (n := 2) (Nat.le_of_ble_eq_true rfl)
  rw [lg_entry_eq]
  generalize (lg_sl ([.ref (ad 0), .int q]) ++ List.replicate (2 - (lg_sl ([.ref (ad 0), .int q])).length) Slot.unset).toArray = ls at hl ⊢
  have hl : lv_has ls 2 [(0, .ref (ad 0)), (1, .int q)] := hl
  refine lv_iload_n hx hb dd_D_queueAt_0 rfl (lv_at hl 1 rfl) ?_
  refine lv_if_lt (tgt := 21) hx hb dd_D_queueAt_1 rfl (fun h1 => ?_) (fun h1 => ?_)
  · refine lv_null hx hb dd_D_queueAt_21 ?_
    exact W.aret hx hb hr (Or.inl ⟨_, rfl⟩) (Or.inl rfl) (fun tt htt hWW => ⟨none, rfl, (by rw [bd_at_none (bd_in_1 h1)]; rfl), htt⟩) (fun _ h => by cases h) dd_D_queueAt_22
  · refine lv_iload_n hx hb dd_D_queueAt_4 rfl (lv_at hl 1 rfl) ?_
    refine lv_aload_n hx hb dd_D_queueAt_5 rfl (lv_at hl 0 rfl) ?_
    refine cw_get1 (k := 0) (C := rn_D) (T := ft_D) (NF := 9) (v := .int (nI (M 0 4))) hx hb hts tw_fs_D hown hK hP (hks.1 0 (by decide)) (cw_C0 ad ca _ _ _ _) rfl 4 (by decide) (hts _ tw_fl_D_43) rfl rfl dd_D_queueAt_6 ?_
    refine lv_icmp_ge (tgt := 21) hx hb dd_D_queueAt_9 rfl (fun h9 => ?_) (fun h9 => ?_)
    · refine lv_null hx hb dd_D_queueAt_21 ?_
      exact W.aret hx hb hr (Or.inl ⟨_, rfl⟩) (Or.inl rfl) (fun tt htt hWW => ⟨none, rfl, (by rw [bd_at_none (by rw [← hM4]; exact bd_in_2 (hMB _ _) h9)]; rfl), htt⟩) (fun _ h => by cases h) dd_D_queueAt_22
    · obtain ⟨a, ha0, rfl⟩ := bd_in_of (bd_in_3 (hMB _ _) h1 h9) (hMB _ _)
      have ha9 : a < N 1 0 := by omega
      refine lv_aload_n hx hb dd_D_queueAt_12 rfl (lv_at hl 0 rfl) ?_
      refine cw_getk (k := 0) (C := rn_D) (T := ft_D) (NF := 9) hx hb hts tw_fs_D hown hK hP (hks.1 0 (by decide)) (cw_C0 ad ca _ _ _ _) rfl 1 (by decide) (hts _ tw_fl_D_24) rfl rfl (cl_F1 hC) dd_D_queueAt_13 ?_
      refine lv_iload_n hx hb dd_D_queueAt_16 rfl (lv_at hl 1 rfl) ?_
      refine cw_aalk (k := 1) (t0 := 0) hx hb hK hP (hks.1 1 (by decide)) (by decide) (by decide) rfl (j := a) (Nat.lt_of_lt_of_le ha9 (cl_12 hC)) (cl_q hC ha9) dd_D_queueAt_17 ?_
      refine lv_goto (tgt := 22) hx hb dd_D_queueAt_18 rfl ?_
      exact W.aret hx hb hr (Or.inl ⟨_, rfl⟩) (Or.inr ⟨_, rfl⟩) (fun tt htt hWW => ⟨some (ad (8 + a)), rfl, (by rw [bd_at_in ha9 (by omega)]; rfl), htt⟩) (fun _ h => by cases h) dd_D_queueAt_22

set_option maxHeartbeats 4000000 in
set_option maxRecDepth 100000 in
theorem cc_D_blockAt (l : Launch) (D : va_G) (ks : List Nat) (ad : Nat → Nat) (ca : Nat → ClassId) (M : sp_N) (X : sp_B) (F : sp_O) (G : sp_Z) (N : sp_N) (O : sp_O) (B : sp_B) (hC : cl_S M X F N O B) (hks : cl_k ks N) (hMB : cl_B M) (q : Int32) : Met l my_D_blockAt (Cond.code my_D_blockAt cd_D_blockAt 2 (some (.object "BarrierDispatch$Block")) :: bg_tbl) ({ frames := 0, cells := 0, slots := 0, locals := 0 }) (va_Pc [.ref (ad 0), .int q] (cw_U D ks ad ca M X F G)) (va_Sq (fun r => r = ((bd_at q (N 6 0)).map (fun j => 20 + j)).map ad)) 0 0 (fun _ => False) := by
  refine Met.ofW (cc := cd_D_blockAt) (maxL := 2) (ret := (some (.object "BarrierDispatch$Block"))) (by decide) rfl ?_
  intro p e s m args below meth c s₁ BB hml hv
  obtain ⟨rfl, hP, hK⟩ := hv
  have hx := BB.exec
  have hb := BB.bytes
  have hr := BB.returns
  have hts : ∀ w ∈ bg_tbl, w.before ([.ref (ad 0), .int q] : List Value).toArray s = true := fun w h => atoms_spec (ws := (Cond.code my_D_blockAt cd_D_blockAt 2 (some (.object "BarrierDispatch$Block")) :: bg_tbl)) BB.pre w (List.mem_cons_of_mem _ h)
  have hown : s.vm.findClass rn_D = some m.cls := findClass_of_methodNamed BB.named
  have hlocks := BB.notSynchronized
  have h12 := cl_12 hC
  have h160 := cl_160 hC
  have h3q := cl_3 hC
  have hM4 := cl_M4 hC
  have hM5 := cl_M5 hC
  have hl := lv_entry ([.ref (ad 0), .int q]) (n := 2) (Nat.le_of_ble_eq_true rfl)
  rw [lg_entry_eq]
  generalize (lg_sl ([.ref (ad 0), .int q]) ++ List.replicate (2 - (lg_sl ([.ref (ad 0), .int q])).length) Slot.unset).toArray = ls at hl ⊢
  have hl : lv_has ls 2 [(0, .ref (ad 0)), (1, .int q)] := hl
  refine lv_iload_n hx hb dd_D_blockAt_0 rfl (lv_at hl 1 rfl) ?_
  refine lv_if_lt (tgt := 21) hx hb dd_D_blockAt_1 rfl (fun h1 => ?_) (fun h1 => ?_)
  · refine lv_null hx hb dd_D_blockAt_21 ?_
    exact W.aret hx hb hr (Or.inl ⟨_, rfl⟩) (Or.inl rfl) (fun tt htt hWW => ⟨none, rfl, (by rw [bd_at_none (bd_in_1 h1)]; rfl), htt⟩) (fun _ h => by cases h) dd_D_blockAt_22
  · refine lv_iload_n hx hb dd_D_blockAt_4 rfl (lv_at hl 1 rfl) ?_
    refine lv_aload_n hx hb dd_D_blockAt_5 rfl (lv_at hl 0 rfl) ?_
    refine cw_get1 (k := 0) (C := rn_D) (T := ft_D) (NF := 9) (v := .int (nI (M 0 5))) hx hb hts tw_fs_D hown hK hP (hks.1 0 (by decide)) (cw_C0 ad ca _ _ _ _) rfl 5 (by decide) (hts _ tw_fl_D_181) rfl rfl dd_D_blockAt_6 ?_
    refine lv_icmp_ge (tgt := 21) hx hb dd_D_blockAt_9 rfl (fun h9 => ?_) (fun h9 => ?_)
    · refine lv_null hx hb dd_D_blockAt_21 ?_
      exact W.aret hx hb hr (Or.inl ⟨_, rfl⟩) (Or.inl rfl) (fun tt htt hWW => ⟨none, rfl, (by rw [bd_at_none (by rw [← hM5]; exact bd_in_2 (hMB _ _) h9)]; rfl), htt⟩) (fun _ h => by cases h) dd_D_blockAt_22
    · obtain ⟨a, ha0, rfl⟩ := bd_in_of (bd_in_3 (hMB _ _) h1 h9) (hMB _ _)
      have ha9 : a < N 6 0 := by omega
      refine lv_aload_n hx hb dd_D_blockAt_12 rfl (lv_at hl 0 rfl) ?_
      refine cw_getk (k := 0) (C := rn_D) (T := ft_D) (NF := 9) hx hb hts tw_fs_D hown hK hP (hks.1 0 (by decide)) (cw_C0 ad ca _ _ _ _) rfl 2 (by decide) (hts _ tw_fl_D_30) rfl rfl (cl_F2 hC) dd_D_blockAt_13 ?_
      refine lv_iload_n hx hb dd_D_blockAt_16 rfl (lv_at hl 1 rfl) ?_
      refine cw_aalk (k := 2) (t0 := 1) hx hb hK hP (hks.1 2 (by decide)) (by decide) (by decide) rfl (j := a) (Nat.lt_of_lt_of_le ha9 (cl_160 hC)) (cl_b hC ha9) dd_D_blockAt_17 ?_
      refine lv_goto (tgt := 22) hx hb dd_D_blockAt_18 rfl ?_
      exact W.aret hx hb hr (Or.inl ⟨_, rfl⟩) (Or.inr ⟨_, rfl⟩) (fun tt htt hWW => ⟨some (ad (20 + a)), rfl, (by rw [bd_at_in ha9 (by omega)]; rfl), htt⟩) (fun _ h => by cases h) dd_D_blockAt_22

set_option maxHeartbeats 4000000 in
set_option maxRecDepth 100000 in
theorem cc_D_groupAt (l : Launch) (D : va_G) (ks : List Nat) (ad : Nat → Nat) (ca : Nat → ClassId) (M : sp_N) (X : sp_B) (F : sp_O) (G : sp_Z) (N : sp_N) (O : sp_O) (B : sp_B) (hC : cl_S M X F N O B) (hks : cl_k ks N) (hMB : cl_B M) (q : Int32) : Met l my_D_groupAt (Cond.code my_D_groupAt cd_D_groupAt 2 (some (.object "BarrierDispatch$Group")) :: bg_tbl) ({ frames := 0, cells := 0, slots := 0, locals := 0 }) (va_Pc [.ref (ad 0), .int q] (cw_U D ks ad ca M X F G)) (va_Sq (fun r => r = ((bd_at q 4).map (fun j => 4 + j)).map ad)) 0 0 (fun _ => False) := by
  refine Met.ofW (cc := cd_D_groupAt) (maxL := 2) (ret := (some (.object "BarrierDispatch$Group"))) (by decide) rfl ?_
  intro p e s m args below meth c s₁ BB hml hv
  obtain ⟨rfl, hP, hK⟩ := hv
  have hx := BB.exec
  have hb := BB.bytes
  have hr := BB.returns
  have hts : ∀ w ∈ bg_tbl, w.before ([.ref (ad 0), .int q] : List Value).toArray s = true := fun w h => atoms_spec (ws := (Cond.code my_D_groupAt cd_D_groupAt 2 (some (.object "BarrierDispatch$Group")) :: bg_tbl)) BB.pre w (List.mem_cons_of_mem _ h)
  have hown : s.vm.findClass rn_D = some m.cls := findClass_of_methodNamed BB.named
  have hlocks := BB.notSynchronized
  have h12 := cl_12 hC
  have h160 := cl_160 hC
  have h3q := cl_3 hC
  have hM4 := cl_M4 hC
  have hM5 := cl_M5 hC
  have hl := lv_entry ([.ref (ad 0), .int q]) (n := 2) (Nat.le_of_ble_eq_true rfl)
  rw [lg_entry_eq]
  generalize (lg_sl ([.ref (ad 0), .int q]) ++ List.replicate (2 - (lg_sl ([.ref (ad 0), .int q])).length) Slot.unset).toArray = ls at hl ⊢
  have hl : lv_has ls 2 [(0, .ref (ad 0)), (1, .int q)] := hl
  refine lv_iload_n hx hb dd_D_groupAt_0 rfl (lv_at hl 1 rfl) ?_
  refine lv_if_lt (tgt := 18) hx hb dd_D_groupAt_1 rfl (fun h1 => ?_) (fun h1 => ?_)
  · refine lv_null hx hb dd_D_groupAt_18 ?_
    exact W.aret hx hb hr (Or.inl ⟨_, rfl⟩) (Or.inl rfl) (fun tt htt hWW => ⟨none, rfl, (by rw [bd_at_none (bd_in_1 h1)]; rfl), htt⟩) (fun _ h => by cases h) dd_D_groupAt_19
  · refine lv_iload_n hx hb dd_D_groupAt_4 rfl (lv_at hl 1 rfl) ?_
    refine lv_iconst (v := nI 4) hx hb dd_D_groupAt_5 (by decide) ?_
    refine lv_icmp_ge (tgt := 18) hx hb dd_D_groupAt_6 rfl (fun h6 => ?_) (fun h6 => ?_)
    · refine lv_null hx hb dd_D_groupAt_18 ?_
      exact W.aret hx hb hr (Or.inl ⟨_, rfl⟩) (Or.inl rfl) (fun tt htt hWW => ⟨none, rfl, (by rw [bd_at_none (by exact bd_in_2 (by decide) h6)]; rfl), htt⟩) (fun _ h => by cases h) dd_D_groupAt_19
    · obtain ⟨a, ha0, rfl⟩ := bd_in_of (bd_in_3 (n := 4) (by decide) h1 h6) (by decide)
      have ha9 : a < 4 := by omega
      refine lv_aload_n hx hb dd_D_groupAt_9 rfl (lv_at hl 0 rfl) ?_
      refine cw_getk (k := 0) (C := rn_D) (T := ft_D) (NF := 9) hx hb hts tw_fs_D hown hK hP (hks.1 0 (by decide)) (cw_C0 ad ca _ _ _ _) rfl 3 (by decide) (hts _ tw_fl_D_36) rfl rfl (cl_F3 hC) dd_D_groupAt_10 ?_
      refine lv_iload_n hx hb dd_D_groupAt_13 rfl (lv_at hl 1 rfl) ?_
      refine cw_aalk (k := 3) (t0 := 2) hx hb hK hP (hks.1 3 (by decide)) (by decide) (by decide) rfl (j := a) ha9 (cl_g hC ha9) dd_D_groupAt_14 ?_
      refine lv_goto (tgt := 19) hx hb dd_D_groupAt_15 rfl ?_
      exact W.aret hx hb hr (Or.inl ⟨_, rfl⟩) (Or.inr ⟨_, rfl⟩) (fun tt htt hWW => ⟨some (ad (4 + a)), rfl, (by rw [bd_at_in ha9 (by omega)]; rfl), htt⟩) (fun _ h => by cases h) dd_D_groupAt_19

set_option maxHeartbeats 4000000 in
set_option maxRecDepth 100000 in
theorem cc_D_isFull (l : Launch) (D : va_G) (ks : List Nat) (ad : Nat → Nat) (ca : Nat → ClassId) (M : sp_N) (X : sp_B) (F : sp_O) (G : sp_Z) (N : sp_N) (O : sp_O) (B : sp_B) (hC : cl_S M X F N O B) (hks : cl_k ks N) (hMB : cl_B M)  : Met l my_D_isFull (Cond.code my_D_isFull cd_D_isFull 1 (some .boolean) :: bg_tbl) ({ frames := 0, cells := 0, slots := 0, locals := 0 }) (va_Pc [.ref (ad 0)] (cw_U D ks ad ca M X F G)) (vp_Si (fun r => r = bd_b (decide (160 ≤ N 6 0)))) 0 0 (fun _ => False) := by
  refine Met.ofW (cc := cd_D_isFull) (maxL := 1) (ret := (some .boolean)) (by decide) rfl ?_
  intro p e s m args below meth c s₁ BB hml hv
  obtain ⟨rfl, hP, hK⟩ := hv
  have hx := BB.exec
  have hb := BB.bytes
  have hr := BB.returns
  have hts : ∀ w ∈ bg_tbl, w.before ([.ref (ad 0)] : List Value).toArray s = true := fun w h => atoms_spec (ws := (Cond.code my_D_isFull cd_D_isFull 1 (some .boolean) :: bg_tbl)) BB.pre w (List.mem_cons_of_mem _ h)
  have hown : s.vm.findClass rn_D = some m.cls := findClass_of_methodNamed BB.named
  have hlocks := BB.notSynchronized
  have h12 := cl_12 hC
  have h160 := cl_160 hC
  have h3q := cl_3 hC
  have hM4 := cl_M4 hC
  have hM5 := cl_M5 hC
  have hl := lv_entry ([.ref (ad 0)]) (n := 1) (Nat.le_of_ble_eq_true rfl)
  rw [lg_entry_eq]
  generalize (lg_sl ([.ref (ad 0)]) ++ List.replicate (1 - (lg_sl ([.ref (ad 0)])).length) Slot.unset).toArray = ls at hl ⊢
  have hl : lv_has ls 1 [(0, .ref (ad 0))] := hl
  refine lv_aload_n hx hb dd_D_isFull_0 rfl (lv_at hl 0 rfl) ?_
  refine cw_get1 (k := 0) (C := rn_D) (T := ft_D) (NF := 9) (v := .int (nI (M 0 5))) hx hb hts tw_fs_D hown hK hP (hks.1 0 (by decide)) (cw_C0 ad ca _ _ _ _) rfl 5 (by decide) (hts _ tw_fl_D_181) rfl rfl dd_D_isFull_1 ?_
  refine lv_sipush (v := nI 160) hx hb dd_D_isFull_4 (by decide) ?_
  refine bq_lt (tgt := 14) hx hb (hMB _ _) (by decide) dd_D_isFull_7 rfl (fun h7 => ?_) (fun h7 => ?_)
  · refine lv_iconst (v := bd_b false) hx hb dd_D_isFull_14 (by decide) ?_
    exact W.zret (ty := .boolean) hx hb hr (bd_b_nar _) (fun tt htt hWW => ⟨_, rfl, (by rw [decide_eq_false (by omega)]), htt⟩) (fun _ h => by cases h) dd_D_isFull_15
  · refine lv_iconst (v := bd_b true) hx hb dd_D_isFull_10 (by decide) ?_
    refine lv_goto (tgt := 15) hx hb dd_D_isFull_11 rfl ?_
    exact W.zret (ty := .boolean) hx hb hr (bd_b_nar _) (fun tt htt hWW => ⟨_, rfl, (by rw [decide_eq_true (by omega)]), htt⟩) (fun _ h => by cases h) dd_D_isFull_15

set_option maxHeartbeats 4000000 in
set_option maxRecDepth 100000 in
theorem cc_D_queued (l : Launch) (D : va_G) (ks : List Nat) (ad : Nat → Nat) (ca : Nat → ClassId) (M : sp_N) (X : sp_B) (F : sp_O) (G : sp_Z) (N : sp_N) (O : sp_O) (B : sp_B) (hC : cl_S M X F N O B) (hks : cl_k ks N) (hMB : cl_B M) (q : Int32) : Met l my_D_queued (Cond.code my_D_queued cd_D_queued 3 (some .int) :: bg_tbl) ({ frames := 1, cells := 0, slots := 0, locals := 21 }) (va_Pc [.ref (ad 0), .int q] (cw_U D ks ad ca M X F G)) (vp_Si (fun r => r = cs_q M (bd_at q (N 1 0)) 6)) 0 0 (fun _ => False) := by
  refine Met.ofW (cc := cd_D_queued) (maxL := 3) (ret := (some .int)) (by decide) rfl ?_
  intro p e s m args below meth c s₁ BB hml hv
  obtain ⟨rfl, hP, hK⟩ := hv
  have hx := BB.exec
  have hb := BB.bytes
  have hr := BB.returns
  have hts : ∀ w ∈ bg_tbl, w.before ([.ref (ad 0), .int q] : List Value).toArray s = true := fun w h => atoms_spec (ws := (Cond.code my_D_queued cd_D_queued 3 (some .int) :: bg_tbl)) BB.pre w (List.mem_cons_of_mem _ h)
  have hown : s.vm.findClass rn_D = some m.cls := findClass_of_methodNamed BB.named
  have hlocks := BB.notSynchronized
  have h12 := cl_12 hC
  have h160 := cl_160 hC
  have h3q := cl_3 hC
  have hM4 := cl_M4 hC
  have hM5 := cl_M5 hC
  have hl := lv_entry ([.ref (ad 0), .int q]) (n := 3) (Nat.le_of_ble_eq_true rfl)
  rw [lg_entry_eq]
  generalize (lg_sl ([.ref (ad 0), .int q]) ++ List.replicate (3 - (lg_sl ([.ref (ad 0), .int q])).length) Slot.unset).toArray = ls at hl ⊢
  have hl : lv_has ls 3 [(0, .ref (ad 0)), (1, .int q)] := hl
  refine lv_aload_n hx hb dd_D_queued_0 rfl (lv_at hl 0 rfl) ?_
  refine lv_iload_n hx hb dd_D_queued_1 rfl (lv_at hl 1 rfl) ?_
  refine cw_callq (k := 0) (C := rn_D) (T := ft_D) (NF := 9) (As := [.int q]) (rest := []) ⟨hx, hb, hml, hown, hts⟩ (cc_D_queueAt l D ks ad ca M X F G N O B hC hks hMB q) (bg_cwV 1 hts tw_ml_D_47 tw_im_D_queueAt tw_se_D_queueAt tw_in_D tw_co_D_queueAt rfl rfl th_D_queueAt ⟨Nat.le_of_ble_eq_true rfl, Nat.le_of_ble_eq_true rfl⟩) hK hP (hks.1 0 (by decide)) (cw_C0 ad ca _ _ _ _) rfl rfl hl.1 rfl (by decide) dd_D_queued_2 ⟨Nat.zero_le _, Nat.zero_le _⟩ (fun h2 => ?_) (fun k9 h2 => ?_)
  · have hq2 := bd_map_n h2
    refine lv_astore_nN hx hb dd_D_queued_5 rfl hl (by decide) rfl (fun ls hl => ?_)
    have hl : lv_has ls 3 [(2, .null), (0, .ref (ad 0)), (1, .int q)] := hl
    refine lv_aload_nN hx hb dd_D_queued_6 rfl (lv_at hl 0 rfl) ?_
    refine lv_ifnonnullN hx hb dd_D_queued_7 ?_
    refine lv_iconst (v := -1) hx hb dd_D_queued_10 (by decide) ?_
    refine lv_goto (tgt := 18) hx hb dd_D_queued_11 rfl ?_
    exact W.iret hx hb hr (fun tt htt hWW => ⟨_, rfl, (by rw [hq2]; rfl), htt⟩) (fun _ h => by cases h) dd_D_queued_18
  · obtain ⟨a2, hq2, hl2, rfl, rfl⟩ := bd_map_s (by omega) h2
    refine lv_astore_n hx hb dd_D_queued_5 rfl hl (by decide) rfl (fun ls hl => ?_)
    have hl : lv_has ls 3 [(2, .ref (ad (8 + a2))), (0, .ref (ad 0)), (1, .int (nI a2))] := hl
    refine lv_aload_n hx hb dd_D_queued_6 rfl (lv_at hl 0 rfl) ?_
    refine lv_ifnonnull (tgt := 14) hx hb dd_D_queued_7 rfl ?_
    refine lv_aload_n hx hb dd_D_queued_14 rfl (lv_at hl 0 rfl) ?_
    refine cw_get1 (k := 8 + a2) (C := rn_Q) (T := ft_Q) (NF := 10) (v := .int (nI (M (8 + a2) 6))) hx hb hts tw_fs_Q hown hK hP (hks.2.1 _ hl2) (cw_CQ (Nat.lt_of_lt_of_le hl2 (cl_12 hC)) ad ca _ _ _ _) rfl 6 (by decide) (hts _ tw_fl_D_168) rfl rfl dd_D_queued_15 ?_
    exact W.iret hx hb hr (fun tt htt hWW => ⟨_, rfl, (by rw [hq2]; rfl), htt⟩) (fun _ h => by cases h) dd_D_queued_18

set_option maxHeartbeats 4000000 in
set_option maxRecDepth 100000 in
theorem cc_D_through (l : Launch) (D : va_G) (ks : List Nat) (ad : Nat → Nat) (ca : Nat → ClassId) (M : sp_N) (X : sp_B) (F : sp_O) (G : sp_Z) (N : sp_N) (O : sp_O) (B : sp_B) (hC : cl_S M X F N O B) (hks : cl_k ks N) (hMB : cl_B M) (q : Int32) : Met l my_D_through (Cond.code my_D_through cd_D_through 3 (some .int) :: bg_tbl) ({ frames := 1, cells := 0, slots := 0, locals := 21 }) (va_Pc [.ref (ad 0), .int q] (cw_U D ks ad ca M X F G)) (vp_Si (fun r => r = cs_q M (bd_at q (N 1 0)) 7)) 0 0 (fun _ => False) := by
  refine Met.ofW (cc := cd_D_through) (maxL := 3) (ret := (some .int)) (by decide) rfl ?_
  intro p e s m args below meth c s₁ BB hml hv
  obtain ⟨rfl, hP, hK⟩ := hv
  have hx := BB.exec
  have hb := BB.bytes
  have hr := BB.returns
  have hts : ∀ w ∈ bg_tbl, w.before ([.ref (ad 0), .int q] : List Value).toArray s = true := fun w h => atoms_spec (ws := (Cond.code my_D_through cd_D_through 3 (some .int) :: bg_tbl)) BB.pre w (List.mem_cons_of_mem _ h)
  have hown : s.vm.findClass rn_D = some m.cls := findClass_of_methodNamed BB.named
  have hlocks := BB.notSynchronized
  have h12 := cl_12 hC
  have h160 := cl_160 hC
  have h3q := cl_3 hC
  have hM4 := cl_M4 hC
  have hM5 := cl_M5 hC
  have hl := lv_entry ([.ref (ad 0), .int q]) (n := 3) (Nat.le_of_ble_eq_true rfl)
  rw [lg_entry_eq]
  generalize (lg_sl ([.ref (ad 0), .int q]) ++ List.replicate (3 - (lg_sl ([.ref (ad 0), .int q])).length) Slot.unset).toArray = ls at hl ⊢
  have hl : lv_has ls 3 [(0, .ref (ad 0)), (1, .int q)] := hl
  refine lv_aload_n hx hb dd_D_through_0 rfl (lv_at hl 0 rfl) ?_
  refine lv_iload_n hx hb dd_D_through_1 rfl (lv_at hl 1 rfl) ?_
  refine cw_callq (k := 0) (C := rn_D) (T := ft_D) (NF := 9) (As := [.int q]) (rest := []) ⟨hx, hb, hml, hown, hts⟩ (cc_D_queueAt l D ks ad ca M X F G N O B hC hks hMB q) (bg_cwV 1 hts tw_ml_D_47 tw_im_D_queueAt tw_se_D_queueAt tw_in_D tw_co_D_queueAt rfl rfl th_D_queueAt ⟨Nat.le_of_ble_eq_true rfl, Nat.le_of_ble_eq_true rfl⟩) hK hP (hks.1 0 (by decide)) (cw_C0 ad ca _ _ _ _) rfl rfl hl.1 rfl (by decide) dd_D_through_2 ⟨Nat.zero_le _, Nat.zero_le _⟩ (fun h2 => ?_) (fun k9 h2 => ?_)
  · have hq2 := bd_map_n h2
    refine lv_astore_nN hx hb dd_D_through_5 rfl hl (by decide) rfl (fun ls hl => ?_)
    have hl : lv_has ls 3 [(2, .null), (0, .ref (ad 0)), (1, .int q)] := hl
    refine lv_aload_nN hx hb dd_D_through_6 rfl (lv_at hl 0 rfl) ?_
    refine lv_ifnonnullN hx hb dd_D_through_7 ?_
    refine lv_iconst (v := -1) hx hb dd_D_through_10 (by decide) ?_
    refine lv_goto (tgt := 18) hx hb dd_D_through_11 rfl ?_
    exact W.iret hx hb hr (fun tt htt hWW => ⟨_, rfl, (by rw [hq2]; rfl), htt⟩) (fun _ h => by cases h) dd_D_through_18
  · obtain ⟨a2, hq2, hl2, rfl, rfl⟩ := bd_map_s (by omega) h2
    refine lv_astore_n hx hb dd_D_through_5 rfl hl (by decide) rfl (fun ls hl => ?_)
    have hl : lv_has ls 3 [(2, .ref (ad (8 + a2))), (0, .ref (ad 0)), (1, .int (nI a2))] := hl
    refine lv_aload_n hx hb dd_D_through_6 rfl (lv_at hl 0 rfl) ?_
    refine lv_ifnonnull (tgt := 14) hx hb dd_D_through_7 rfl ?_
    refine lv_aload_n hx hb dd_D_through_14 rfl (lv_at hl 0 rfl) ?_
    refine cw_get1 (k := 8 + a2) (C := rn_Q) (T := ft_Q) (NF := 10) (v := .int (nI (M (8 + a2) 7))) hx hb hts tw_fs_Q hown hK hP (hks.2.1 _ hl2) (cw_CQ (Nat.lt_of_lt_of_le hl2 (cl_12 hC)) ad ca _ _ _ _) rfl 7 (by decide) (hts _ tw_fl_D_59) rfl rfl dd_D_through_15 ?_
    exact W.iret hx hb hr (fun tt htt hWW => ⟨_, rfl, (by rw [hq2]; rfl), htt⟩) (fun _ h => by cases h) dd_D_through_18

set_option maxHeartbeats 4000000 in
set_option maxRecDepth 100000 in
theorem cc_D_peak (l : Launch) (D : va_G) (ks : List Nat) (ad : Nat → Nat) (ca : Nat → ClassId) (M : sp_N) (X : sp_B) (F : sp_O) (G : sp_Z) (N : sp_N) (O : sp_O) (B : sp_B) (hC : cl_S M X F N O B) (hks : cl_k ks N) (hMB : cl_B M) (q : Int32) : Met l my_D_peak (Cond.code my_D_peak cd_D_peak 3 (some .int) :: bg_tbl) ({ frames := 1, cells := 0, slots := 0, locals := 21 }) (va_Pc [.ref (ad 0), .int q] (cw_U D ks ad ca M X F G)) (vp_Si (fun r => r = cs_q M (bd_at q (N 1 0)) 8)) 0 0 (fun _ => False) := by
  refine Met.ofW (cc := cd_D_peak) (maxL := 3) (ret := (some .int)) (by decide) rfl ?_
  intro p e s m args below meth c s₁ BB hml hv
  obtain ⟨rfl, hP, hK⟩ := hv
  have hx := BB.exec
  have hb := BB.bytes
  have hr := BB.returns
  have hts : ∀ w ∈ bg_tbl, w.before ([.ref (ad 0), .int q] : List Value).toArray s = true := fun w h => atoms_spec (ws := (Cond.code my_D_peak cd_D_peak 3 (some .int) :: bg_tbl)) BB.pre w (List.mem_cons_of_mem _ h)
  have hown : s.vm.findClass rn_D = some m.cls := findClass_of_methodNamed BB.named
  have hlocks := BB.notSynchronized
  have h12 := cl_12 hC
  have h160 := cl_160 hC
  have h3q := cl_3 hC
  have hM4 := cl_M4 hC
  have hM5 := cl_M5 hC
  have hl := lv_entry ([.ref (ad 0), .int q]) (n := 3) (Nat.le_of_ble_eq_true rfl)
  rw [lg_entry_eq]
  generalize (lg_sl ([.ref (ad 0), .int q]) ++ List.replicate (3 - (lg_sl ([.ref (ad 0), .int q])).length) Slot.unset).toArray = ls at hl ⊢
  have hl : lv_has ls 3 [(0, .ref (ad 0)), (1, .int q)] := hl
  refine lv_aload_n hx hb dd_D_peak_0 rfl (lv_at hl 0 rfl) ?_
  refine lv_iload_n hx hb dd_D_peak_1 rfl (lv_at hl 1 rfl) ?_
  refine cw_callq (k := 0) (C := rn_D) (T := ft_D) (NF := 9) (As := [.int q]) (rest := []) ⟨hx, hb, hml, hown, hts⟩ (cc_D_queueAt l D ks ad ca M X F G N O B hC hks hMB q) (bg_cwV 1 hts tw_ml_D_47 tw_im_D_queueAt tw_se_D_queueAt tw_in_D tw_co_D_queueAt rfl rfl th_D_queueAt ⟨Nat.le_of_ble_eq_true rfl, Nat.le_of_ble_eq_true rfl⟩) hK hP (hks.1 0 (by decide)) (cw_C0 ad ca _ _ _ _) rfl rfl hl.1 rfl (by decide) dd_D_peak_2 ⟨Nat.zero_le _, Nat.zero_le _⟩ (fun h2 => ?_) (fun k9 h2 => ?_)
  · have hq2 := bd_map_n h2
    refine lv_astore_nN hx hb dd_D_peak_5 rfl hl (by decide) rfl (fun ls hl => ?_)
    have hl : lv_has ls 3 [(2, .null), (0, .ref (ad 0)), (1, .int q)] := hl
    refine lv_aload_nN hx hb dd_D_peak_6 rfl (lv_at hl 0 rfl) ?_
    refine lv_ifnonnullN hx hb dd_D_peak_7 ?_
    refine lv_iconst (v := -1) hx hb dd_D_peak_10 (by decide) ?_
    refine lv_goto (tgt := 18) hx hb dd_D_peak_11 rfl ?_
    exact W.iret hx hb hr (fun tt htt hWW => ⟨_, rfl, (by rw [hq2]; rfl), htt⟩) (fun _ h => by cases h) dd_D_peak_18
  · obtain ⟨a2, hq2, hl2, rfl, rfl⟩ := bd_map_s (by omega) h2
    refine lv_astore_n hx hb dd_D_peak_5 rfl hl (by decide) rfl (fun ls hl => ?_)
    have hl : lv_has ls 3 [(2, .ref (ad (8 + a2))), (0, .ref (ad 0)), (1, .int (nI a2))] := hl
    refine lv_aload_n hx hb dd_D_peak_6 rfl (lv_at hl 0 rfl) ?_
    refine lv_ifnonnull (tgt := 14) hx hb dd_D_peak_7 rfl ?_
    refine lv_aload_n hx hb dd_D_peak_14 rfl (lv_at hl 0 rfl) ?_
    refine cw_get1 (k := 8 + a2) (C := rn_Q) (T := ft_Q) (NF := 10) (v := .int (nI (M (8 + a2) 8))) hx hb hts tw_fs_Q hown hK hP (hks.2.1 _ hl2) (cw_CQ (Nat.lt_of_lt_of_le hl2 (cl_12 hC)) ad ca _ _ _ _) rfl 8 (by decide) (hts _ tw_fl_D_171) rfl rfl dd_D_peak_15 ?_
    exact W.iret hx hb hr (fun tt htt hWW => ⟨_, rfl, (by rw [hq2]; rfl), htt⟩) (fun _ h => by cases h) dd_D_peak_18

set_option maxHeartbeats 4000000 in
set_option maxRecDepth 100000 in
theorem cc_D_count (l : Launch) (D : va_G) (ks : List Nat) (ad : Nat → Nat) (ca : Nat → ClassId) (M : sp_N) (X : sp_B) (F : sp_O) (G : sp_Z) (N : sp_N) (O : sp_O) (B : sp_B) (hC : cl_S M X F N O B) (hks : cl_k ks N) (hMB : cl_B M) (q : Int32) : Met l my_D_count (Cond.code my_D_count cd_D_count 3 (some .int) :: bg_tbl) ({ frames := 1, cells := 0, slots := 0, locals := 21 }) (va_Pc [.ref (ad 0), .int q] (cw_U D ks ad ca M X F G)) (vp_Si (fun r => r = cs_ct M (bd_at q 4))) 0 0 (fun _ => False) := by
  refine Met.ofW (cc := cd_D_count) (maxL := 3) (ret := (some .int)) (by decide) rfl ?_
  intro p e s m args below meth c s₁ BB hml hv
  obtain ⟨rfl, hP, hK⟩ := hv
  have hx := BB.exec
  have hb := BB.bytes
  have hr := BB.returns
  have hts : ∀ w ∈ bg_tbl, w.before ([.ref (ad 0), .int q] : List Value).toArray s = true := fun w h => atoms_spec (ws := (Cond.code my_D_count cd_D_count 3 (some .int) :: bg_tbl)) BB.pre w (List.mem_cons_of_mem _ h)
  have hown : s.vm.findClass rn_D = some m.cls := findClass_of_methodNamed BB.named
  have hlocks := BB.notSynchronized
  have h12 := cl_12 hC
  have h160 := cl_160 hC
  have h3q := cl_3 hC
  have hM4 := cl_M4 hC
  have hM5 := cl_M5 hC
  have hl := lv_entry ([.ref (ad 0), .int q]) (n := 3) (Nat.le_of_ble_eq_true rfl)
  rw [lg_entry_eq]
  generalize (lg_sl ([.ref (ad 0), .int q]) ++ List.replicate (3 - (lg_sl ([.ref (ad 0), .int q])).length) Slot.unset).toArray = ls at hl ⊢
  have hl : lv_has ls 3 [(0, .ref (ad 0)), (1, .int q)] := hl
  refine lv_aload_n hx hb dd_D_count_0 rfl (lv_at hl 0 rfl) ?_
  refine lv_iload_n hx hb dd_D_count_1 rfl (lv_at hl 1 rfl) ?_
  refine cw_callq (k := 0) (C := rn_D) (T := ft_D) (NF := 9) (As := [.int q]) (rest := []) ⟨hx, hb, hml, hown, hts⟩ (cc_D_groupAt l D ks ad ca M X F G N O B hC hks hMB q) (bg_cwV 1 hts tw_ml_D_66 tw_im_D_groupAt tw_se_D_groupAt tw_in_D tw_co_D_groupAt rfl rfl th_D_groupAt ⟨Nat.le_of_ble_eq_true rfl, Nat.le_of_ble_eq_true rfl⟩) hK hP (hks.1 0 (by decide)) (cw_C0 ad ca _ _ _ _) rfl rfl hl.1 rfl (by decide) dd_D_count_2 ⟨Nat.zero_le _, Nat.zero_le _⟩ (fun h2 => ?_) (fun k9 h2 => ?_)
  · have hq2 := bd_map_n h2
    refine lv_astore_nN hx hb dd_D_count_5 rfl hl (by decide) rfl (fun ls hl => ?_)
    have hl : lv_has ls 3 [(2, .null), (0, .ref (ad 0)), (1, .int q)] := hl
    refine lv_aload_nN hx hb dd_D_count_6 rfl (lv_at hl 0 rfl) ?_
    refine lv_ifnonnullN hx hb dd_D_count_7 ?_
    refine lv_bipush (v := -2) hx hb dd_D_count_10 (by decide) ?_
    refine lv_goto (tgt := 24) hx hb dd_D_count_12 rfl ?_
    exact W.iret hx hb hr (fun tt htt hWW => ⟨_, rfl, (by rw [hq2]; rfl), htt⟩) (fun _ h => by cases h) dd_D_count_24
  · obtain ⟨a2, hq2, hl2, rfl, rfl⟩ := bd_map_s (by omega) h2
    refine lv_astore_n hx hb dd_D_count_5 rfl hl (by decide) rfl (fun ls hl => ?_)
    have hl : lv_has ls 3 [(2, .ref (ad (4 + a2))), (0, .ref (ad 0)), (1, .int (nI a2))] := hl
    refine lv_aload_n hx hb dd_D_count_6 rfl (lv_at hl 0 rfl) ?_
    refine lv_ifnonnull (tgt := 15) hx hb dd_D_count_7 rfl ?_
    refine lv_aload_n hx hb dd_D_count_15 rfl (lv_at hl 0 rfl) ?_
    refine cw_get1 (k := 4 + a2) (C := rn_G) (T := ft_G) (NF := 2) (v := .int (nI (M (4 + a2) 0))) hx hb hts tw_fs_G hown hK hP (hks.1 _ (by omega)) (cw_CG hl2 ad ca _ _ _ _) rfl 0 (by decide) (hts _ tw_fl_D_120) rfl rfl dd_D_count_16 ?_
    refine lv_aload_n hx hb dd_D_count_19 rfl (lv_at hl 0 rfl) ?_
    refine cw_get1 (k := 4 + a2) (C := rn_G) (T := ft_G) (NF := 2) (v := .int (nI (M (4 + a2) 1))) hx hb hts tw_fs_G hown hK hP (hks.1 _ (by omega)) (cw_CG hl2 ad ca _ _ _ _) rfl 1 (by decide) (hts _ tw_fl_D_81) rfl rfl dd_D_count_20 ?_
    refine lv_iadd hx hb dd_D_count_23 ?_
    rw [nI_add]
    exact W.iret hx hb hr (fun tt htt hWW => ⟨_, rfl, (by rw [hq2]; rfl), htt⟩) (fun _ h => by cases h) dd_D_count_24

set_option maxHeartbeats 4000000 in
set_option maxRecDepth 100000 in
theorem cc_D_state (l : Launch) (D : va_G) (ks : List Nat) (ad : Nat → Nat) (ca : Nat → ClassId) (M : sp_N) (X : sp_B) (F : sp_O) (G : sp_Z) (N : sp_N) (O : sp_O) (B : sp_B) (hC : cl_S M X F N O B) (hks : cl_k ks N) (hMB : cl_B M) (q : Int32) : Met l my_D_state (Cond.code my_D_state cd_D_state 3 (some .int) :: bg_tbl) ({ frames := 1, cells := 0, slots := 0, locals := 21 }) (va_Pc [.ref (ad 0), .int q] (cw_U D ks ad ca M X F G)) (vp_Si (fun r => r = cs_st M X (bd_at q (N 6 0)))) 0 0 (fun _ => False) := by
  refine Met.ofW (cc := cd_D_state) (maxL := 3) (ret := (some .int)) (by decide) rfl ?_
  intro p e s m args below meth c s₁ BB hml hv
  obtain ⟨rfl, hP, hK⟩ := hv
  have hx := BB.exec
  have hb := BB.bytes
  have hr := BB.returns
  have hts : ∀ w ∈ bg_tbl, w.before ([.ref (ad 0), .int q] : List Value).toArray s = true := fun w h => atoms_spec (ws := (Cond.code my_D_state cd_D_state 3 (some .int) :: bg_tbl)) BB.pre w (List.mem_cons_of_mem _ h)
  have hown : s.vm.findClass rn_D = some m.cls := findClass_of_methodNamed BB.named
  have hlocks := BB.notSynchronized
  have h12 := cl_12 hC
  have h160 := cl_160 hC
  have h3q := cl_3 hC
  have hM4 := cl_M4 hC
  have hM5 := cl_M5 hC
  have hl := lv_entry ([.ref (ad 0), .int q]) (n := 3) (Nat.le_of_ble_eq_true rfl)
  rw [lg_entry_eq]
  generalize (lg_sl ([.ref (ad 0), .int q]) ++ List.replicate (3 - (lg_sl ([.ref (ad 0), .int q])).length) Slot.unset).toArray = ls at hl ⊢
  have hl : lv_has ls 3 [(0, .ref (ad 0)), (1, .int q)] := hl
  refine lv_aload_n hx hb dd_D_state_0 rfl (lv_at hl 0 rfl) ?_
  refine lv_iload_n hx hb dd_D_state_1 rfl (lv_at hl 1 rfl) ?_
  refine cw_callq (k := 0) (C := rn_D) (T := ft_D) (NF := 9) (As := [.int q]) (rest := []) ⟨hx, hb, hml, hown, hts⟩ (cc_D_blockAt l D ks ad ca M X F G N O B hC hks hMB q) (bg_cwV 1 hts tw_ml_D_102 tw_im_D_blockAt tw_se_D_blockAt tw_in_D tw_co_D_blockAt rfl rfl th_D_blockAt ⟨Nat.le_of_ble_eq_true rfl, Nat.le_of_ble_eq_true rfl⟩) hK hP (hks.1 0 (by decide)) (cw_C0 ad ca _ _ _ _) rfl rfl hl.1 rfl (by decide) dd_D_state_2 ⟨Nat.zero_le _, Nat.zero_le _⟩ (fun h2 => ?_) (fun k9 h2 => ?_)
  · have hq2 := bd_map_n h2
    refine lv_astore_nN hx hb dd_D_state_5 rfl hl (by decide) rfl (fun ls hl => ?_)
    have hl : lv_has ls 3 [(2, .null), (0, .ref (ad 0)), (1, .int q)] := hl
    refine lv_aload_nN hx hb dd_D_state_6 rfl (lv_at hl 0 rfl) ?_
    refine lv_ifnonnullN hx hb dd_D_state_7 ?_
    refine lv_bipush (v := -3) hx hb dd_D_state_10 (by decide) ?_
    exact W.iret hx hb hr (fun tt htt hWW => ⟨_, rfl, (by rw [hq2]; rfl), htt⟩) (fun _ h => by cases h) dd_D_state_12
  · obtain ⟨a2, hq2, hl2, rfl, rfl⟩ := bd_map_s (by omega) h2
    refine lv_astore_n hx hb dd_D_state_5 rfl hl (by decide) rfl (fun ls hl => ?_)
    have hl : lv_has ls 3 [(2, .ref (ad (20 + a2))), (0, .ref (ad 0)), (1, .int (nI a2))] := hl
    refine lv_aload_n hx hb dd_D_state_6 rfl (lv_at hl 0 rfl) ?_
    refine lv_ifnonnull (tgt := 13) hx hb dd_D_state_7 rfl ?_
    refine lv_aload_n hx hb dd_D_state_13 rfl (lv_at hl 0 rfl) ?_
    refine cw_get1 (k := 20 + a2) (C := rn_B) (T := ft_B) (NF := 11) (v := .int (bd_b (X (20 + a2) 4))) hx hb hts tw_fs_B hown hK hP (hks.2.2 _ hl2) (cw_CB _ ad ca _ _ _ _) rfl 4 (by decide) (hts _ tw_fl_D_127) rfl rfl dd_D_state_14 ?_
    refine bq_zeq (tgt := 30) hx hb dd_D_state_17 rfl (fun h17 => ?_) (fun h17 => ?_)
    · refine lv_aload_n hx hb dd_D_state_30 rfl (lv_at hl 0 rfl) ?_
      refine cw_get1 (k := 20 + a2) (C := rn_B) (T := ft_B) (NF := 11) (v := .int (nI (M (20 + a2) 3))) hx hb hts tw_fs_B hown hK hP (hks.2.2 _ hl2) (cw_CB _ ad ca _ _ _ _) rfl 3 (by decide) (hts _ tw_fl_D_91) rfl rfl dd_D_state_31 ?_
      exact W.iret hx hb hr (fun tt htt hWW => ⟨_, rfl, (by rw [hq2]; rw [cs_st, if_neg (by rw [h17]; decide)]; rfl), htt⟩) (fun _ h => by cases h) dd_D_state_34
    · refine lv_aload_n hx hb dd_D_state_20 rfl (lv_at hl 0 rfl) ?_
      refine cw_get1 (k := 20 + a2) (C := rn_B) (T := ft_B) (NF := 11) (v := .int (nI (M (20 + a2) 3))) hx hb hts tw_fs_B hown hK hP (hks.2.2 _ hl2) (cw_CB _ ad ca _ _ _ _) rfl 3 (by decide) (hts _ tw_fl_D_91) rfl rfl dd_D_state_21 ?_
      refine lv_bipush (v := nI 8) hx hb dd_D_state_24 (by decide) ?_
      refine lv_iadd hx hb dd_D_state_26 ?_
      rw [nI_add]
      refine lv_goto (tgt := 34) hx hb dd_D_state_27 rfl ?_
      exact W.iret hx hb hr (fun tt htt hWW => ⟨_, rfl, (by rw [hq2]; rw [cs_st, if_pos h17]), htt⟩) (fun _ h => by cases h) dd_D_state_34

set_option maxHeartbeats 4000000 in
set_option maxRecDepth 100000 in
theorem cc_D_mayStart_n (l : Launch) (D : va_G) (ks : List Nat) (ad : Nat → Nat) (ca : Nat → ClassId) (M : sp_N) (X : sp_B) (F : sp_O) (G : sp_Z) (N : sp_N) (O : sp_O) (B : sp_B) (hC : cl_S M X F N O B) (hks : cl_k ks N) (hMB : cl_B M)  : Met l my_D_mayStart (Cond.code my_D_mayStart cd_D_mayStart 2 (some .boolean) :: bg_tbl) ({ frames := 0, cells := 0, slots := 0, locals := 0 }) (va_Pc [.ref (ad 0), .null] (cw_U D ks ad ca M X F G)) (vp_Si (fun r => r = bd_b false)) 0 0 (fun _ => False) := by
  refine Met.ofW (cc := cd_D_mayStart) (maxL := 2) (ret := (some .boolean)) (by decide) rfl ?_
  intro p e s m args below meth c s₁ BB hml hv
  obtain ⟨rfl, hP, hK⟩ := hv
  have hx := BB.exec
  have hb := BB.bytes
  have hr := BB.returns
  have hts : ∀ w ∈ bg_tbl, w.before ([.ref (ad 0), .null] : List Value).toArray s = true := fun w h => atoms_spec (ws := (Cond.code my_D_mayStart cd_D_mayStart 2 (some .boolean) :: bg_tbl)) BB.pre w (List.mem_cons_of_mem _ h)
  have hown : s.vm.findClass rn_D = some m.cls := findClass_of_methodNamed BB.named
  have hlocks := BB.notSynchronized
  have h12 := cl_12 hC
  have h160 := cl_160 hC
  have h3q := cl_3 hC
  have hM4 := cl_M4 hC
  have hM5 := cl_M5 hC
  have hl := lv_entry ([.ref (ad 0), .null]) (n := 2) (Nat.le_of_ble_eq_true rfl)
  rw [lg_entry_eq]
  generalize (lg_sl ([.ref (ad 0), .null]) ++ List.replicate (2 - (lg_sl ([.ref (ad 0), .null])).length) Slot.unset).toArray = ls at hl ⊢
  have hl : lv_has ls 2 [(0, .ref (ad 0)), (1, .null)] := hl
  refine lv_aload_nN hx hb dd_D_mayStart_0 rfl (lv_at hl 1 rfl) ?_
  refine lv_ifnullN (tgt := 11) hx hb dd_D_mayStart_1 rfl ?_
  refine lv_iconst (v := bd_b false) hx hb dd_D_mayStart_11 (by decide) ?_
  exact W.zret (ty := .boolean) hx hb hr (bd_b_nar _) (fun tt htt hWW => ⟨_, rfl, rfl, htt⟩) (fun _ h => by cases h) dd_D_mayStart_12

set_option maxHeartbeats 4000000 in
set_option maxRecDepth 100000 in
theorem cc_D_mayStart (l : Launch) (D : va_G) (ks : List Nat) (ad : Nat → Nat) (ca : Nat → ClassId) (M : sp_N) (X : sp_B) (F : sp_O) (G : sp_Z) (N : sp_N) (O : sp_O) (B : sp_B) (hC : cl_S M X F N O B) (hks : cl_k ks N) (hMB : cl_B M) (hJ : cw_J ks ad) (t : Nat) (ht : t < N 6 0) : Met l my_D_mayStart (Cond.code my_D_mayStart cd_D_mayStart 2 (some .boolean) :: bg_tbl) ({ frames := 3, cells := 0, slots := 0, locals := 61 }) (va_Pc [.ref (ad 0), .ref (ad (20 + t))] (cw_U D ks ad ca M X F G)) (vp_Si (fun r => r = bd_b (cs_ms M X F N t))) 0 0 (fun _ => False) := by
  refine Met.ofW (cc := cd_D_mayStart) (maxL := 2) (ret := (some .boolean)) (by decide) rfl ?_
  intro p e s m args below meth c s₁ BB hml hv
  obtain ⟨rfl, hP, hK⟩ := hv
  have hx := BB.exec
  have hb := BB.bytes
  have hr := BB.returns
  have hts : ∀ w ∈ bg_tbl, w.before ([.ref (ad 0), .ref (ad (20 + t))] : List Value).toArray s = true := fun w h => atoms_spec (ws := (Cond.code my_D_mayStart cd_D_mayStart 2 (some .boolean) :: bg_tbl)) BB.pre w (List.mem_cons_of_mem _ h)
  have hown : s.vm.findClass rn_D = some m.cls := findClass_of_methodNamed BB.named
  have hlocks := BB.notSynchronized
  have h12 := cl_12 hC
  have h160 := cl_160 hC
  have h3q := cl_3 hC
  have hM4 := cl_M4 hC
  have hM5 := cl_M5 hC
  have hl := lv_entry ([.ref (ad 0), .ref (ad (20 + t))]) (n := 2) (Nat.le_of_ble_eq_true rfl)
  rw [lg_entry_eq]
  generalize (lg_sl ([.ref (ad 0), .ref (ad (20 + t))]) ++ List.replicate (2 - (lg_sl ([.ref (ad 0), .ref (ad (20 + t))])).length) Slot.unset).toArray = ls at hl ⊢
  have hl : lv_has ls 2 [(0, .ref (ad 0)), (1, .ref (ad (20 + t)))] := hl
  refine lv_aload_n hx hb dd_D_mayStart_0 rfl (lv_at hl 1 rfl) ?_
  refine lv_ifnull hx hb dd_D_mayStart_1 ?_
  refine lv_aload_n hx hb dd_D_mayStart_4 rfl (lv_at hl 1 rfl) ?_
  refine cw_calli (k := 20 + t) (C := rn_B) (T := ft_B) (NF := 11) (As := []) (rest := []) (v := bd_b (cs_in M X F N t)) ⟨hx, hb, hml, hown, hts⟩ (cc_B_isLetIn l D ks ad ca M X F G N O B hC hks hMB hJ t ht) (bg_cwV 0 hts tw_ml_D_207 tw_im_B_isLetIn tw_se_B_isLetIn tw_in_B tw_co_B_isLetIn rfl rfl th_B_isLetIn ⟨Nat.le_of_ble_eq_true rfl, Nat.le_of_ble_eq_true rfl⟩) hK hP (hks.2.2 _ ht) (cw_CB _ ad ca _ _ _ _) rfl rfl hl.1 rfl (by decide) dd_D_mayStart_5 ⟨Nat.zero_le _, Nat.zero_le _⟩ ?_
  refine bq_zne (tgt := 13) hx hb dd_D_mayStart_8 rfl (fun h8 => ?_) (fun h8 => ?_)
  · refine lv_aload_n hx hb dd_D_mayStart_13 rfl (lv_at hl 1 rfl) ?_
    refine cw_get1 (k := 20 + t) (C := rn_B) (T := ft_B) (NF := 11) (v := .int (bd_b (X (20 + t) 4))) hx hb hts tw_fs_B hown hK hP (hks.2.2 _ ht) (cw_CB _ ad ca _ _ _ _) rfl 4 (by decide) (hts _ tw_fl_D_127) rfl rfl dd_D_mayStart_14 ?_
    refine bq_zne (tgt := 38) hx hb dd_D_mayStart_17 rfl (fun h17 => ?_) (fun h17 => ?_)
    · refine lv_iconst (v := bd_b true) hx hb dd_D_mayStart_38 (by decide) ?_
      refine lv_goto (tgt := 43) hx hb dd_D_mayStart_39 rfl ?_
      exact W.zret (ty := .boolean) hx hb hr (bd_b_nar _) (fun tt htt hWW => ⟨_, rfl, (by simp [cs_ms, h8, h17]), htt⟩) (fun _ h => by cases h) dd_D_mayStart_43
    · refine lv_aload_n hx hb dd_D_mayStart_20 rfl (lv_at hl 1 rfl) ?_
      refine cw_getr (k := 20 + t) (C := rn_B) (T := ft_B) (NF := 11) hx hb hts tw_fs_B hown hK hP (hks.2.2 _ ht) (cw_CB _ ad ca _ _ _ _) rfl 5 (by decide) (hts _ tw_fl_D_110) rfl rfl dd_D_mayStart_21 (fun h21 => ?_) (fun k9 h21 => ?_)
      · have ho9 := cl_cn hC ht h21
        refine lv_ifnonnullN hx hb dd_D_mayStart_24 ?_
        refine lv_aload_n hx hb dd_D_mayStart_27 rfl (lv_at hl 0 rfl) ?_
        refine cw_get1 (k := 0) (C := rn_D) (T := ft_D) (NF := 9) (v := .int (nI (M 0 6))) hx hb hts tw_fs_D hown hK hP (hks.1 0 (by decide)) (cw_C0 ad ca _ _ _ _) rfl 6 (by decide) (hts _ tw_fl_D_210) rfl rfl dd_D_mayStart_28 ?_
        refine lv_aload_n hx hb dd_D_mayStart_31 rfl (lv_at hl 0 rfl) ?_
        refine cw_get1 (k := 0) (C := rn_D) (T := ft_D) (NF := 9) (v := .int (nI (M 0 0))) hx hb hts tw_fs_D hown hK hP (hks.1 0 (by decide)) (cw_C0 ad ca _ _ _ _) rfl 0 (by decide) (hts _ tw_fl_D_18) rfl rfl dd_D_mayStart_32 ?_
        refine bq_ge (tgt := 42) hx hb (hMB _ _) (hMB _ _) dd_D_mayStart_35 rfl (fun h35 => ?_) (fun h35 => ?_)
        · refine lv_iconst (v := bd_b false) hx hb dd_D_mayStart_42 (by decide) ?_
          exact W.zret (ty := .boolean) hx hb hr (bd_b_nar _) (fun tt htt hWW => ⟨_, rfl, (by simp [cs_ms, h8, h17, h21, ho9, h35, Nat.not_lt.mpr h35]), htt⟩) (fun _ h => by cases h) dd_D_mayStart_43
        · refine lv_iconst (v := bd_b true) hx hb dd_D_mayStart_38 (by decide) ?_
          refine lv_goto (tgt := 43) hx hb dd_D_mayStart_39 rfl ?_
          exact W.zret (ty := .boolean) hx hb hr (bd_b_nar _) (fun tt htt hWW => ⟨_, rfl, (by simp [cs_ms, h8, h17, h21, ho9, h35, Nat.not_le.mpr h35]), htt⟩) (fun _ h => by cases h) dd_D_mayStart_43
      · obtain ⟨cc9, hcc9, hclt, rfl⟩ := cl_cs hC ht h21
        refine lv_ifnonnull (tgt := 38) hx hb dd_D_mayStart_24 rfl ?_
        refine lv_iconst (v := bd_b true) hx hb dd_D_mayStart_38 (by decide) ?_
        refine lv_goto (tgt := 43) hx hb dd_D_mayStart_39 rfl ?_
        exact W.zret (ty := .boolean) hx hb hr (bd_b_nar _) (fun tt htt hWW => ⟨_, rfl, (by simp [cs_ms, h8, h17, h21, hcc9]), htt⟩) (fun _ h => by cases h) dd_D_mayStart_43
  · refine lv_iconst (v := bd_b false) hx hb dd_D_mayStart_11 (by decide) ?_
    exact W.zret (ty := .boolean) hx hb hr (bd_b_nar _) (fun tt htt hWW => ⟨_, rfl, (by simp [cs_ms, h8]), htt⟩) (fun _ h => by cases h) dd_D_mayStart_12

set_option maxHeartbeats 4000000 in
set_option maxRecDepth 100000 in
theorem cc_D_ready (l : Launch) (D : va_G) (ks : List Nat) (ad : Nat → Nat) (ca : Nat → ClassId) (M : sp_N) (X : sp_B) (F : sp_O) (G : sp_Z) (N : sp_N) (O : sp_O) (B : sp_B) (hC : cl_S M X F N O B) (hks : cl_k ks N) (hMB : cl_B M) (hJ : cw_J ks ad) : Met l my_D_ready (Cond.code my_D_ready cd_D_ready 3 (some .int) :: bg_tbl) ({ frames := 4, cells := 0, slots := 0, locals := 82 }) (va_Pc [.ref (ad 0)] (cw_U D ks ad ca M X F G)) (vp_Si (fun r => r = nI (cs_y M X F N))) 0 0 (fun _ => False) := by
  refine Met.ofW (cc := cd_D_ready) (maxL := 3) (ret := (some .int)) (by decide) rfl ?_
  intro p e s m args below meth c s₁ BB hml hv
  obtain ⟨rfl, hP, hK⟩ := hv
  have hx := BB.exec
  have hb := BB.bytes
  have hr := BB.returns
  have hts : ∀ w ∈ bg_tbl, w.before ([.ref (ad 0)] : List Value).toArray s = true := fun w h => atoms_spec (ws := (Cond.code my_D_ready cd_D_ready 3 (some .int) :: bg_tbl)) BB.pre w (List.mem_cons_of_mem _ h)
  have hown : s.vm.findClass rn_D = some m.cls := findClass_of_methodNamed BB.named
  have hlocks := BB.notSynchronized
  have h12 := cl_12 hC
  have h160 := cl_160 hC
  have h3q := cl_3 hC
  have hM4 := cl_M4 hC
  have hM5 := cl_M5 hC
  have hl := lv_entry ([.ref (ad 0)]) (n := 3) (Nat.le_of_ble_eq_true rfl)
  rw [lg_entry_eq]
  generalize (lg_sl ([.ref (ad 0)]) ++ List.replicate (3 - (lg_sl ([.ref (ad 0)])).length) Slot.unset).toArray = ls at hl ⊢
  have hl : lv_has ls 3 [(0, .ref (ad 0))] := hl
  have lp : ∀ (n : Nat) (i : Nat) (ls : Array Slot), (n + i = N 1 0) →  lv_has ls 3 [(0, .ref (ad 0)), (1, .int (nI (sp_c (fun i => cs_mo M X F N (cs_f F i)) i))), (2, .int (nI i))] → W p l e (headSpec (Cond.code my_D_ready cd_D_ready 3 (some .int) :: bg_tbl) ({ frames := 4, cells := 0, slots := 0, locals := 82 })).room s m ([.ref (ad 0)] : List Value).toArray below meth c s.heap [] 0 0 (MQ below (vp_Si (fun r => r = nI (cs_y M X F N))) ([.ref (ad 0)] : List Value).toArray s 0 0 (fun _ => False)) (F0 m 4 ls []) := by
    intro n
    induction n with
    | zero =>
      intro i ls hk hl
      refine lv_iload_n hx hb dd_D_ready_4 rfl (lv_at hl 2 rfl) ?_
      refine lv_aload_n hx hb dd_D_ready_5 rfl (lv_at hl 0 rfl) ?_
      refine cw_get1 (k := 0) (C := rn_D) (T := ft_D) (NF := 9) (v := .int (nI (M 0 4))) hx hb hts tw_fs_D hown hK hP (hks.1 0 (by decide)) (cw_C0 ad ca _ _ _ _) rfl 4 (by decide) (hts _ tw_fl_D_43) rfl rfl dd_D_ready_6 ?_
      refine bq_ge (tgt := 37) hx hb (by omega) (hMB _ _) dd_D_ready_9 rfl (fun h9 => ?_) (fun h9 => ?_)
      · refine lv_iload_n hx hb dd_D_ready_37 rfl (lv_at hl 1 rfl) ?_
        exact W.iret hx hb hr (fun tt htt hWW => ⟨_, rfl, (by rw [show i = N 1 0 by omega]; rfl), htt⟩) (fun _ h => by cases h) dd_D_ready_38
      · exact absurd h9 (by omega)
    | succ n ih =>
      intro i ls hk hl
      refine lv_iload_n hx hb dd_D_ready_4 rfl (lv_at hl 2 rfl) ?_
      refine lv_aload_n hx hb dd_D_ready_5 rfl (lv_at hl 0 rfl) ?_
      refine cw_get1 (k := 0) (C := rn_D) (T := ft_D) (NF := 9) (v := .int (nI (M 0 4))) hx hb hts tw_fs_D hown hK hP (hks.1 0 (by decide)) (cw_C0 ad ca _ _ _ _) rfl 4 (by decide) (hts _ tw_fl_D_43) rfl rfl dd_D_ready_6 ?_
      refine bq_ge (tgt := 37) hx hb (by omega) (hMB _ _) dd_D_ready_9 rfl (fun h9 => ?_) (fun h9 => ?_)
      · exact absurd h9 (by omega)
      · refine lv_aload_n hx hb dd_D_ready_12 rfl (lv_at hl 0 rfl) ?_
        refine lv_aload_n hx hb dd_D_ready_13 rfl (lv_at hl 0 rfl) ?_
        refine cw_getk (k := 0) (C := rn_D) (T := ft_D) (NF := 9) hx hb hts tw_fs_D hown hK hP (hks.1 0 (by decide)) (cw_C0 ad ca _ _ _ _) rfl 1 (by decide) (hts _ tw_fl_D_24) rfl rfl (cl_F1 hC) dd_D_ready_14 ?_
        refine lv_iload_n hx hb dd_D_ready_17 rfl (lv_at hl 2 rfl) ?_
        refine cw_aalk (k := 1) (t0 := 0) hx hb hK hP (hks.1 1 (by decide)) (by decide) (by decide) rfl (j := i) (Nat.lt_of_lt_of_le (by omega) (cl_12 hC)) (cl_q hC (by omega)) dd_D_ready_18 ?_
        refine cw_getr (k := 8 + i) (C := rn_Q) (T := ft_Q) (NF := 10) hx hb hts tw_fs_Q hown hK hP (hks.2.1 _ (by omega)) (cw_CQ (Nat.lt_of_lt_of_le (by omega) (cl_12 hC)) ad ca _ _ _ _) rfl 4 (by decide) (hts _ tw_fl_D_174) rfl rfl dd_D_ready_19 (fun h19 => ?_) (fun k9 h19 => ?_)
        · skip
          refine cw_calli (k := 0) (C := rn_D) (T := ft_D) (NF := 9) (As := [.null]) (rest := []) (v := bd_b false) ⟨hx, hb, hml, hown, hts⟩ (cc_D_mayStart_n l D ks ad ca M X F G N O B hC hks hMB) (bg_cwV 1 hts tw_ml_D_177 tw_im_D_mayStart tw_se_D_mayStart tw_in_D tw_co_D_mayStart rfl rfl th_D_mayStart ⟨Nat.le_of_ble_eq_true rfl, Nat.le_of_ble_eq_true rfl⟩) hK hP (hks.1 0 (by decide)) (cw_C0 ad ca _ _ _ _) rfl rfl hl.1 rfl (by decide) dd_D_ready_22 ⟨Nat.zero_le _, Nat.zero_le _⟩ ?_
          refine bq_zeq (tgt := 31) hx hb dd_D_ready_25 rfl (fun h25 => ?_) (fun h25 => ?_)
          · refine lv_iinc (k := 2) (v := nI (i + 1)) hx hb dd_D_ready_31 hl rfl (nI_1 _) (by decide) rfl (fun ls hl => ?_)
            have hl : lv_has ls 3 [(2, .int (nI (i + 1))), (0, .ref (ad 0)), (1, .int (nI (sp_c (fun i => cs_mo M X F N (cs_f F i)) i)))] := hl
            refine lv_goto (tgt := 4) hx hb dd_D_ready_34 rfl ?_
            have e9 : sp_c (fun i => cs_mo M X F N (cs_f F i)) (i + 1) = sp_c (fun i => cs_mo M X F N (cs_f F i)) i := by simp [sp_c, cs_mo, cs_f, h9, Nat.not_le.mpr h9, h19, h25]
            exact ih (i + 1) ls (by omega) (by rw [e9]; exact lv_sub hl [1, 2, 0] rfl)
          · cases h25
        · obtain ⟨tf, htf, rfl⟩ := cl_fs hC (by omega) h19
          refine cw_calli (k := 0) (C := rn_D) (T := ft_D) (NF := 9) (As := [.ref (ad (20 + tf))]) (rest := []) (v := bd_b (cs_ms M X F N tf)) ⟨hx, hb, hml, hown, hts⟩ (cc_D_mayStart l D ks ad ca M X F G N O B hC hks hMB hJ tf htf) (bg_cwV 1 hts tw_ml_D_177 tw_im_D_mayStart tw_se_D_mayStart tw_in_D tw_co_D_mayStart rfl rfl th_D_mayStart ⟨Nat.le_of_ble_eq_true rfl, Nat.le_of_ble_eq_true rfl⟩) hK hP (hks.1 0 (by decide)) (cw_C0 ad ca _ _ _ _) rfl rfl hl.1 rfl (by decide) dd_D_ready_22 ⟨Nat.zero_le _, Nat.zero_le _⟩ ?_
          refine bq_zeq (tgt := 31) hx hb dd_D_ready_25 rfl (fun h25 => ?_) (fun h25 => ?_)
          · refine lv_iinc (k := 2) (v := nI (i + 1)) hx hb dd_D_ready_31 hl rfl (nI_1 _) (by decide) rfl (fun ls hl => ?_)
            have hl : lv_has ls 3 [(2, .int (nI (i + 1))), (0, .ref (ad 0)), (1, .int (nI (sp_c (fun i => cs_mo M X F N (cs_f F i)) i)))] := hl
            refine lv_goto (tgt := 4) hx hb dd_D_ready_34 rfl ?_
            have e9 : sp_c (fun i => cs_mo M X F N (cs_f F i)) (i + 1) = sp_c (fun i => cs_mo M X F N (cs_f F i)) i := by simp [sp_c, cs_mo, cs_f, h9, Nat.not_le.mpr h9, h19, h25]
            exact ih (i + 1) ls (by omega) (by rw [e9]; exact lv_sub hl [1, 2, 0] rfl)
          · refine lv_iinc (k := 1) (v := nI ((sp_c (fun i => cs_mo M X F N (cs_f F i)) i) + 1)) hx hb dd_D_ready_28 hl rfl (nI_1 _) (by decide) rfl (fun ls hl => ?_)
            have hl : lv_has ls 3 [(1, .int (nI ((sp_c (fun i => cs_mo M X F N (cs_f F i)) i) + 1))), (0, .ref (ad 0)), (2, .int (nI i))] := hl
            refine lv_iinc (k := 2) (v := nI (i + 1)) hx hb dd_D_ready_31 hl rfl (nI_1 _) (by decide) rfl (fun ls hl => ?_)
            have hl : lv_has ls 3 [(2, .int (nI (i + 1))), (1, .int (nI ((sp_c (fun i => cs_mo M X F N (cs_f F i)) i) + 1))), (0, .ref (ad 0))] := hl
            refine lv_goto (tgt := 4) hx hb dd_D_ready_34 rfl ?_
            have e9 : sp_c (fun i => cs_mo M X F N (cs_f F i)) (i + 1) = (sp_c (fun i => cs_mo M X F N (cs_f F i)) i) + 1 := by simp [sp_c, cs_mo, cs_f, h9, Nat.not_le.mpr h9, h19, h25]
            exact ih (i + 1) ls (by omega) (by rw [e9]; exact lv_sub hl [2, 1, 0] rfl)
  refine lv_iconst (v := nI 0) hx hb dd_D_ready_0 (by decide) ?_
  refine lv_istore_n hx hb dd_D_ready_1 rfl hl (by decide) rfl (fun ls hl => ?_)
  have hl : lv_has ls 3 [(1, .int (nI 0)), (0, .ref (ad 0))] := hl
  refine lv_iconst (v := nI 0) hx hb dd_D_ready_2 (by decide) ?_
  refine lv_istore_n hx hb dd_D_ready_3 rfl hl (by decide) rfl (fun ls hl => ?_)
  have hl : lv_has ls 3 [(2, .int (nI 0)), (1, .int (nI 0)), (0, .ref (ad 0))] := hl
  exact lp (N 1 0) 0 ls (by omega) (lv_sub hl [2, 1, 0] rfl)

set_option maxHeartbeats 4000000 in
set_option maxRecDepth 100000 in
theorem cc_D_choose (l : Launch) (D : va_G) (ks : List Nat) (ad : Nat → Nat) (ca : Nat → ClassId) (M : sp_N) (X : sp_B) (F : sp_O) (G : sp_Z) (N : sp_N) (O : sp_O) (B : sp_B) (hC : cl_S M X F N O B) (hks : cl_k ks N) (hMB : cl_B M) (hJ : cw_J ks ad) : Met l my_D_choose (Cond.code my_D_choose cd_D_choose 4 (some (.object "BarrierDispatch$Block")) :: bg_tbl) ({ frames := 4, cells := 0, slots := 0, locals := 82 }) (va_Pc [.ref (ad 0)] (cw_U D ks ad ca M X F G)) (va_Sq (fun r => r = ((cs_h M X F N (N 1 0)).map (fun t => 20 + t)).map ad)) 0 0 (fun _ => False) := by
  refine Met.ofW (cc := cd_D_choose) (maxL := 4) (ret := (some (.object "BarrierDispatch$Block"))) (by decide) rfl ?_
  intro p e s m args below meth c s₁ BB hml hv
  obtain ⟨rfl, hP, hK⟩ := hv
  have hx := BB.exec
  have hb := BB.bytes
  have hr := BB.returns
  have hts : ∀ w ∈ bg_tbl, w.before ([.ref (ad 0)] : List Value).toArray s = true := fun w h => atoms_spec (ws := (Cond.code my_D_choose cd_D_choose 4 (some (.object "BarrierDispatch$Block")) :: bg_tbl)) BB.pre w (List.mem_cons_of_mem _ h)
  have hown : s.vm.findClass rn_D = some m.cls := findClass_of_methodNamed BB.named
  have hlocks := BB.notSynchronized
  have h12 := cl_12 hC
  have h160 := cl_160 hC
  have h3q := cl_3 hC
  have hM4 := cl_M4 hC
  have hM5 := cl_M5 hC
  have hl := lv_entry ([.ref (ad 0)]) (n := 4) (Nat.le_of_ble_eq_true rfl)
  rw [lg_entry_eq]
  generalize (lg_sl ([.ref (ad 0)]) ++ List.replicate (4 - (lg_sl ([.ref (ad 0)])).length) Slot.unset).toArray = ls at hl ⊢
  have hl : lv_has ls 4 [(0, .ref (ad 0))] := hl
  have lp : ∀ (n : Nat) (i : Nat) (o : Option Nat) (ls : Array Slot), (n + i = N 1 0) → (o = cs_h M X F N i) → (∀ z, o = some z → z < N 6 0) →  lv_has ls 4 [(0, .ref (ad 0)), (1, va_rf (o.map (fun b => ad (20 + b)))), (2, .int (nI i))] → W p l e (headSpec (Cond.code my_D_choose cd_D_choose 4 (some (.object "BarrierDispatch$Block")) :: bg_tbl) ({ frames := 4, cells := 0, slots := 0, locals := 82 })).room s m ([.ref (ad 0)] : List Value).toArray below meth c s.heap [] 0 0 (MQ below (va_Sq (fun r => r = ((cs_h M X F N (N 1 0)).map (fun t => 20 + t)).map ad)) ([.ref (ad 0)] : List Value).toArray s 0 0 (fun _ => False)) (F0 m 4 ls []) := by
    intro n
    induction n with
    | zero =>
      intro i o ls hk he ho9 hl
      cases o with
      | none =>
        have hl : lv_has ls 4 [(0, .ref (ad 0)), (1, .null), (2, .int (nI i))] := hl
        refine lv_iload_n hx hb dd_D_choose_4 rfl (lv_at hl 2 rfl) ?_
        refine lv_aload_n hx hb dd_D_choose_5 rfl (lv_at hl 0 rfl) ?_
        refine cw_get1 (k := 0) (C := rn_D) (T := ft_D) (NF := 9) (v := .int (nI (M 0 4))) hx hb hts tw_fs_D hown hK hP (hks.1 0 (by decide)) (cw_C0 ad ca _ _ _ _) rfl 4 (by decide) (hts _ tw_fl_D_43) rfl rfl dd_D_choose_6 ?_
        refine bq_ge (tgt := 50) hx hb (by omega) (hMB _ _) dd_D_choose_9 rfl (fun h9 => ?_) (fun h9 => ?_)
        · refine lv_aload_nN hx hb dd_D_choose_50 rfl (lv_at hl 1 rfl) ?_
          exact W.aret hx hb hr (Or.inl ⟨_, rfl⟩) (Or.inl rfl) (fun tt htt hWW => ⟨none, rfl, (by rw [show N 1 0 = i by omega, ← he]; rfl), htt⟩) (fun _ h => by cases h) dd_D_choose_51
        · exact absurd h9 (by omega)
      | some b =>
        have hl : lv_has ls 4 [(0, .ref (ad 0)), (1, .ref (ad (20 + b))), (2, .int (nI i))] := hl
        have hbl := ho9 b rfl
        refine lv_iload_n hx hb dd_D_choose_4 rfl (lv_at hl 2 rfl) ?_
        refine lv_aload_n hx hb dd_D_choose_5 rfl (lv_at hl 0 rfl) ?_
        refine cw_get1 (k := 0) (C := rn_D) (T := ft_D) (NF := 9) (v := .int (nI (M 0 4))) hx hb hts tw_fs_D hown hK hP (hks.1 0 (by decide)) (cw_C0 ad ca _ _ _ _) rfl 4 (by decide) (hts _ tw_fl_D_43) rfl rfl dd_D_choose_6 ?_
        refine bq_ge (tgt := 50) hx hb (by omega) (hMB _ _) dd_D_choose_9 rfl (fun h9 => ?_) (fun h9 => ?_)
        · refine lv_aload_n hx hb dd_D_choose_50 rfl (lv_at hl 1 rfl) ?_
          exact W.aret hx hb hr (Or.inl ⟨_, rfl⟩) (Or.inr ⟨_, rfl⟩) (fun tt htt hWW => ⟨some (ad (20 + b)), rfl, (by rw [show N 1 0 = i by omega, ← he]; rfl), htt⟩) (fun _ h => by cases h) dd_D_choose_51
        · exact absurd h9 (by omega)
    | succ n ih =>
      intro i o ls hk he ho9 hl
      cases o with
      | none =>
        have hl : lv_has ls 4 [(0, .ref (ad 0)), (1, .null), (2, .int (nI i))] := hl
        refine lv_iload_n hx hb dd_D_choose_4 rfl (lv_at hl 2 rfl) ?_
        refine lv_aload_n hx hb dd_D_choose_5 rfl (lv_at hl 0 rfl) ?_
        refine cw_get1 (k := 0) (C := rn_D) (T := ft_D) (NF := 9) (v := .int (nI (M 0 4))) hx hb hts tw_fs_D hown hK hP (hks.1 0 (by decide)) (cw_C0 ad ca _ _ _ _) rfl 4 (by decide) (hts _ tw_fl_D_43) rfl rfl dd_D_choose_6 ?_
        refine bq_ge (tgt := 50) hx hb (by omega) (hMB _ _) dd_D_choose_9 rfl (fun h9 => ?_) (fun h9 => ?_)
        · exact absurd h9 (by omega)
        · refine lv_aload_n hx hb dd_D_choose_12 rfl (lv_at hl 0 rfl) ?_
          refine cw_getk (k := 0) (C := rn_D) (T := ft_D) (NF := 9) hx hb hts tw_fs_D hown hK hP (hks.1 0 (by decide)) (cw_C0 ad ca _ _ _ _) rfl 1 (by decide) (hts _ tw_fl_D_24) rfl rfl (cl_F1 hC) dd_D_choose_13 ?_
          refine lv_iload_n hx hb dd_D_choose_16 rfl (lv_at hl 2 rfl) ?_
          refine cw_aalk (k := 1) (t0 := 0) hx hb hK hP (hks.1 1 (by decide)) (by decide) (by decide) rfl (j := i) (Nat.lt_of_lt_of_le (by omega) (cl_12 hC)) (cl_q hC (by omega)) dd_D_choose_17 ?_
          refine cw_getr (k := 8 + i) (C := rn_Q) (T := ft_Q) (NF := 10) hx hb hts tw_fs_Q hown hK hP (hks.2.1 _ (by omega)) (cw_CQ (Nat.lt_of_lt_of_le (by omega) (cl_12 hC)) ad ca _ _ _ _) rfl 4 (by decide) (hts _ tw_fl_D_174) rfl rfl dd_D_choose_18 (fun h18 => ?_) (fun k9 h18 => ?_)
          · skip
            refine lv_astore_nN hx hb dd_D_choose_21 rfl hl (by decide) rfl (fun ls hl => ?_)
            have hl : lv_has ls 4 [(3, .null), (0, .ref (ad 0)), (1, .null), (2, .int (nI i))] := hl
            refine lv_aload_n hx hb dd_D_choose_22 rfl (lv_at hl 1 rfl) ?_
            refine lv_aload_nN hx hb dd_D_choose_23 rfl (lv_at hl 0 rfl) ?_
            refine cw_calli (k := 0) (C := rn_D) (T := ft_D) (NF := 9) (As := [.null]) (rest := []) (v := bd_b false) ⟨hx, hb, hml, hown, hts⟩ (cc_D_mayStart_n l D ks ad ca M X F G N O B hC hks hMB) (bg_cwV 1 hts tw_ml_D_177 tw_im_D_mayStart tw_se_D_mayStart tw_in_D tw_co_D_mayStart rfl rfl th_D_mayStart ⟨Nat.le_of_ble_eq_true rfl, Nat.le_of_ble_eq_true rfl⟩) hK hP (hks.1 0 (by decide)) (cw_C0 ad ca _ _ _ _) rfl rfl hl.1 rfl (by decide) dd_D_choose_24 ⟨Nat.zero_le _, Nat.zero_le _⟩ ?_
            refine bq_zeq (tgt := 44) hx hb dd_D_choose_27 rfl (fun h27 => ?_) (fun h27 => ?_)
            · refine lv_iinc (k := 3) (v := nI (i + 1)) hx hb dd_D_choose_44 hl rfl (nI_1 _) (by decide) rfl (fun ls hl => ?_)
              have hl : lv_has ls 4 [(2, .int (nI (i + 1))), (3, .null), (0, .ref (ad 0)), (1, .null)] := hl
              refine lv_goto (tgt := 4) hx hb dd_D_choose_47 rfl ?_
              exact ih (i + 1) (none) ls (by omega) (by rw [cs_h, ← he]; simp [cs_g, cs_f, cs_e, h9, Nat.not_le.mpr h9, h18, h27]) (by intro z hz; cases hz) (lv_sub hl [2, 3, 0] rfl)
            · cases h27
          · obtain ⟨tf, htf, rfl⟩ := cl_fs hC (by omega) h18
            refine lv_astore_n hx hb dd_D_choose_21 rfl hl (by decide) rfl (fun ls hl => ?_)
            have hl : lv_has ls 4 [(3, .ref (ad (20 + tf))), (0, .ref (ad 0)), (1, .null), (2, .int (nI i))] := hl
            refine lv_aload_n hx hb dd_D_choose_22 rfl (lv_at hl 1 rfl) ?_
            refine lv_aload_n hx hb dd_D_choose_23 rfl (lv_at hl 0 rfl) ?_
            refine cw_calli (k := 0) (C := rn_D) (T := ft_D) (NF := 9) (As := [.ref (ad (20 + tf))]) (rest := []) (v := bd_b (cs_ms M X F N tf)) ⟨hx, hb, hml, hown, hts⟩ (cc_D_mayStart l D ks ad ca M X F G N O B hC hks hMB hJ tf htf) (bg_cwV 1 hts tw_ml_D_177 tw_im_D_mayStart tw_se_D_mayStart tw_in_D tw_co_D_mayStart rfl rfl th_D_mayStart ⟨Nat.le_of_ble_eq_true rfl, Nat.le_of_ble_eq_true rfl⟩) hK hP (hks.1 0 (by decide)) (cw_C0 ad ca _ _ _ _) rfl rfl hl.1 rfl (by decide) dd_D_choose_24 ⟨Nat.zero_le _, Nat.zero_le _⟩ ?_
            refine bq_zeq (tgt := 44) hx hb dd_D_choose_27 rfl (fun h27 => ?_) (fun h27 => ?_)
            · refine lv_iinc (k := 3) (v := nI (i + 1)) hx hb dd_D_choose_44 hl rfl (nI_1 _) (by decide) rfl (fun ls hl => ?_)
              have hl : lv_has ls 4 [(2, .int (nI (i + 1))), (3, .ref (ad (20 + tf))), (0, .ref (ad 0)), (1, .null)] := hl
              refine lv_goto (tgt := 4) hx hb dd_D_choose_47 rfl ?_
              exact ih (i + 1) (none) ls (by omega) (by rw [cs_h, ← he]; simp [cs_g, cs_f, cs_e, h9, Nat.not_le.mpr h9, h18, h27]) (by intro z hz; cases hz) (lv_sub hl [2, 3, 0] rfl)
            · refine lv_aload_nN hx hb dd_D_choose_30 rfl (lv_at hl 2 rfl) ?_
              refine lv_ifnullN (tgt := 42) hx hb dd_D_choose_31 rfl ?_
              refine lv_aload_n hx hb dd_D_choose_42 rfl (lv_at hl 0 rfl) ?_
              refine lv_astore_n hx hb dd_D_choose_43 rfl hl (by decide) rfl (fun ls hl => ?_)
              have hl : lv_has ls 4 [(1, .ref (ad (20 + tf))), (3, .ref (ad (20 + tf))), (0, .ref (ad 0)), (2, .int (nI i))] := hl
              refine lv_iinc (k := 3) (v := nI (i + 1)) hx hb dd_D_choose_44 hl rfl (nI_1 _) (by decide) rfl (fun ls hl => ?_)
              have hl : lv_has ls 4 [(2, .int (nI (i + 1))), (1, .ref (ad (20 + tf))), (3, .ref (ad (20 + tf))), (0, .ref (ad 0))] := hl
              refine lv_goto (tgt := 4) hx hb dd_D_choose_47 rfl ?_
              exact ih (i + 1) (some tf) ls (by omega) (by rw [cs_h, ← he]; simp [cs_g, cs_f, cs_e, h9, Nat.not_le.mpr h9, h18, h27]) (by intro z hz; cases hz; omega) (lv_sub hl [3, 1, 0] rfl)
      | some b =>
        have hl : lv_has ls 4 [(0, .ref (ad 0)), (1, .ref (ad (20 + b))), (2, .int (nI i))] := hl
        have hbl := ho9 b rfl
        refine lv_iload_n hx hb dd_D_choose_4 rfl (lv_at hl 2 rfl) ?_
        refine lv_aload_n hx hb dd_D_choose_5 rfl (lv_at hl 0 rfl) ?_
        refine cw_get1 (k := 0) (C := rn_D) (T := ft_D) (NF := 9) (v := .int (nI (M 0 4))) hx hb hts tw_fs_D hown hK hP (hks.1 0 (by decide)) (cw_C0 ad ca _ _ _ _) rfl 4 (by decide) (hts _ tw_fl_D_43) rfl rfl dd_D_choose_6 ?_
        refine bq_ge (tgt := 50) hx hb (by omega) (hMB _ _) dd_D_choose_9 rfl (fun h9 => ?_) (fun h9 => ?_)
        · exact absurd h9 (by omega)
        · refine lv_aload_n hx hb dd_D_choose_12 rfl (lv_at hl 0 rfl) ?_
          refine cw_getk (k := 0) (C := rn_D) (T := ft_D) (NF := 9) hx hb hts tw_fs_D hown hK hP (hks.1 0 (by decide)) (cw_C0 ad ca _ _ _ _) rfl 1 (by decide) (hts _ tw_fl_D_24) rfl rfl (cl_F1 hC) dd_D_choose_13 ?_
          refine lv_iload_n hx hb dd_D_choose_16 rfl (lv_at hl 2 rfl) ?_
          refine cw_aalk (k := 1) (t0 := 0) hx hb hK hP (hks.1 1 (by decide)) (by decide) (by decide) rfl (j := i) (Nat.lt_of_lt_of_le (by omega) (cl_12 hC)) (cl_q hC (by omega)) dd_D_choose_17 ?_
          refine cw_getr (k := 8 + i) (C := rn_Q) (T := ft_Q) (NF := 10) hx hb hts tw_fs_Q hown hK hP (hks.2.1 _ (by omega)) (cw_CQ (Nat.lt_of_lt_of_le (by omega) (cl_12 hC)) ad ca _ _ _ _) rfl 4 (by decide) (hts _ tw_fl_D_174) rfl rfl dd_D_choose_18 (fun h18 => ?_) (fun k9 h18 => ?_)
          · skip
            refine lv_astore_nN hx hb dd_D_choose_21 rfl hl (by decide) rfl (fun ls hl => ?_)
            have hl : lv_has ls 4 [(3, .null), (0, .ref (ad 0)), (1, .ref (ad (20 + b))), (2, .int (nI i))] := hl
            refine lv_aload_n hx hb dd_D_choose_22 rfl (lv_at hl 1 rfl) ?_
            refine lv_aload_nN hx hb dd_D_choose_23 rfl (lv_at hl 0 rfl) ?_
            refine cw_calli (k := 0) (C := rn_D) (T := ft_D) (NF := 9) (As := [.null]) (rest := []) (v := bd_b false) ⟨hx, hb, hml, hown, hts⟩ (cc_D_mayStart_n l D ks ad ca M X F G N O B hC hks hMB) (bg_cwV 1 hts tw_ml_D_177 tw_im_D_mayStart tw_se_D_mayStart tw_in_D tw_co_D_mayStart rfl rfl th_D_mayStart ⟨Nat.le_of_ble_eq_true rfl, Nat.le_of_ble_eq_true rfl⟩) hK hP (hks.1 0 (by decide)) (cw_C0 ad ca _ _ _ _) rfl rfl hl.1 rfl (by decide) dd_D_choose_24 ⟨Nat.zero_le _, Nat.zero_le _⟩ ?_
            refine bq_zeq (tgt := 44) hx hb dd_D_choose_27 rfl (fun h27 => ?_) (fun h27 => ?_)
            · refine lv_iinc (k := 3) (v := nI (i + 1)) hx hb dd_D_choose_44 hl rfl (nI_1 _) (by decide) rfl (fun ls hl => ?_)
              have hl : lv_has ls 4 [(2, .int (nI (i + 1))), (3, .null), (0, .ref (ad 0)), (1, .ref (ad (20 + b)))] := hl
              refine lv_goto (tgt := 4) hx hb dd_D_choose_47 rfl ?_
              exact ih (i + 1) (some b) ls (by omega) (by rw [cs_h, ← he]; simp [cs_g, cs_f, cs_e, h9, Nat.not_le.mpr h9, h18, h27]) (by intro z hz; cases hz; omega) (lv_sub hl [2, 3, 0] rfl)
            · cases h27
          · obtain ⟨tf, htf, rfl⟩ := cl_fs hC (by omega) h18
            refine lv_astore_n hx hb dd_D_choose_21 rfl hl (by decide) rfl (fun ls hl => ?_)
            have hl : lv_has ls 4 [(3, .ref (ad (20 + tf))), (0, .ref (ad 0)), (1, .ref (ad (20 + b))), (2, .int (nI i))] := hl
            refine lv_aload_n hx hb dd_D_choose_22 rfl (lv_at hl 1 rfl) ?_
            refine lv_aload_n hx hb dd_D_choose_23 rfl (lv_at hl 0 rfl) ?_
            refine cw_calli (k := 0) (C := rn_D) (T := ft_D) (NF := 9) (As := [.ref (ad (20 + tf))]) (rest := []) (v := bd_b (cs_ms M X F N tf)) ⟨hx, hb, hml, hown, hts⟩ (cc_D_mayStart l D ks ad ca M X F G N O B hC hks hMB hJ tf htf) (bg_cwV 1 hts tw_ml_D_177 tw_im_D_mayStart tw_se_D_mayStart tw_in_D tw_co_D_mayStart rfl rfl th_D_mayStart ⟨Nat.le_of_ble_eq_true rfl, Nat.le_of_ble_eq_true rfl⟩) hK hP (hks.1 0 (by decide)) (cw_C0 ad ca _ _ _ _) rfl rfl hl.1 rfl (by decide) dd_D_choose_24 ⟨Nat.zero_le _, Nat.zero_le _⟩ ?_
            refine bq_zeq (tgt := 44) hx hb dd_D_choose_27 rfl (fun h27 => ?_) (fun h27 => ?_)
            · refine lv_iinc (k := 3) (v := nI (i + 1)) hx hb dd_D_choose_44 hl rfl (nI_1 _) (by decide) rfl (fun ls hl => ?_)
              have hl : lv_has ls 4 [(2, .int (nI (i + 1))), (3, .ref (ad (20 + tf))), (0, .ref (ad 0)), (1, .ref (ad (20 + b)))] := hl
              refine lv_goto (tgt := 4) hx hb dd_D_choose_47 rfl ?_
              exact ih (i + 1) (some b) ls (by omega) (by rw [cs_h, ← he]; simp [cs_g, cs_f, cs_e, h9, Nat.not_le.mpr h9, h18, h27]) (by intro z hz; cases hz; omega) (lv_sub hl [2, 3, 0] rfl)
            · refine lv_aload_n hx hb dd_D_choose_30 rfl (lv_at hl 2 rfl) ?_
              refine lv_ifnull hx hb dd_D_choose_31 ?_
              refine lv_aload_n hx hb dd_D_choose_34 rfl (lv_at hl 0 rfl) ?_
              refine lv_aload_n hx hb dd_D_choose_35 rfl (lv_at hl 2 rfl) ?_
              refine cw_calli (k := 20 + tf) (C := rn_B) (T := ft_B) (NF := 11) (As := [.ref (ad (20 + b))]) (rest := []) (v := bd_b (cs_bf M N tf b)) ⟨hx, hb, hml, hown, hts⟩ (cc_B_goesBefore l D ks ad ca M X F G N O B hC hks hMB tf b htf (by omega)) (bg_cwV 1 hts tw_ml_D_204 tw_im_B_goesBefore tw_se_B_goesBefore tw_in_B tw_co_B_goesBefore rfl rfl th_B_goesBefore ⟨Nat.le_of_ble_eq_true rfl, Nat.le_of_ble_eq_true rfl⟩) hK hP (hks.2.2 _ htf) (cw_CB _ ad ca _ _ _ _) rfl rfl hl.1 rfl (by decide) dd_D_choose_36 ⟨Nat.zero_le _, Nat.zero_le _⟩ ?_
              refine bq_zeq (tgt := 44) hx hb dd_D_choose_39 rfl (fun h39 => ?_) (fun h39 => ?_)
              · refine lv_iinc (k := 3) (v := nI (i + 1)) hx hb dd_D_choose_44 hl rfl (nI_1 _) (by decide) rfl (fun ls hl => ?_)
                have hl : lv_has ls 4 [(2, .int (nI (i + 1))), (3, .ref (ad (20 + tf))), (0, .ref (ad 0)), (1, .ref (ad (20 + b)))] := hl
                refine lv_goto (tgt := 4) hx hb dd_D_choose_47 rfl ?_
                exact ih (i + 1) (some b) ls (by omega) (by rw [cs_h, ← he]; simp [cs_g, cs_f, cs_e, h9, Nat.not_le.mpr h9, h18, h27, h39]) (by intro z hz; cases hz; omega) (lv_sub hl [2, 3, 0] rfl)
              · refine lv_aload_n hx hb dd_D_choose_42 rfl (lv_at hl 0 rfl) ?_
                refine lv_astore_n hx hb dd_D_choose_43 rfl hl (by decide) rfl (fun ls hl => ?_)
                have hl : lv_has ls 4 [(1, .ref (ad (20 + tf))), (3, .ref (ad (20 + tf))), (0, .ref (ad 0)), (2, .int (nI i))] := hl
                refine lv_iinc (k := 3) (v := nI (i + 1)) hx hb dd_D_choose_44 hl rfl (nI_1 _) (by decide) rfl (fun ls hl => ?_)
                have hl : lv_has ls 4 [(2, .int (nI (i + 1))), (1, .ref (ad (20 + tf))), (3, .ref (ad (20 + tf))), (0, .ref (ad 0))] := hl
                refine lv_goto (tgt := 4) hx hb dd_D_choose_47 rfl ?_
                exact ih (i + 1) (some tf) ls (by omega) (by rw [cs_h, ← he]; simp [cs_g, cs_f, cs_e, h9, Nat.not_le.mpr h9, h18, h27, h39]) (by intro z hz; cases hz; omega) (lv_sub hl [3, 1, 0] rfl)
  refine lv_null hx hb dd_D_choose_0 ?_
  refine lv_astore_nN hx hb dd_D_choose_1 rfl hl (by decide) rfl (fun ls hl => ?_)
  have hl : lv_has ls 4 [(1, .null), (0, .ref (ad 0))] := hl
  refine lv_iconst (v := nI 0) hx hb dd_D_choose_2 (by decide) ?_
  refine lv_istore_n hx hb dd_D_choose_3 rfl hl (by decide) rfl (fun ls hl => ?_)
  have hl : lv_has ls 4 [(2, .int (nI 0)), (1, .null), (0, .ref (ad 0))] := hl
  exact lp (N 1 0) 0 none ls (by omega) rfl (fun z hz => by cases hz) (lv_sub hl [2, 1, 0] rfl)

set_option maxHeartbeats 4000000 in
set_option maxRecDepth 100000 in
theorem cc_D_nextDue (l : Launch) (D : va_G) (ks : List Nat) (ad : Nat → Nat) (ca : Nat → ClassId) (M : sp_N) (X : sp_B) (F : sp_O) (G : sp_Z) (N : sp_N) (O : sp_O) (B : sp_B) (hC : cl_S M X F N O B) (hks : cl_k ks N) (hMB : cl_B M)  : Met l my_D_nextDue (Cond.code my_D_nextDue cd_D_nextDue 5 (some (.object "BarrierDispatch$Block")) :: bg_tbl) ({ frames := 0, cells := 0, slots := 0, locals := 0 }) (va_Pc [.ref (ad 0)] (cw_U D ks ad ca M X F G)) (va_Sq (fun r => r = ((cs_d M G (N 6 0)).map (fun t => 20 + t)).map ad)) 0 0 (fun _ => False) := by
  refine Met.ofW (cc := cd_D_nextDue) (maxL := 5) (ret := (some (.object "BarrierDispatch$Block"))) (by decide) rfl ?_
  intro p e s m args below meth c s₁ BB hml hv
  obtain ⟨rfl, hP, hK⟩ := hv
  have hx := BB.exec
  have hb := BB.bytes
  have hr := BB.returns
  have hts : ∀ w ∈ bg_tbl, w.before ([.ref (ad 0)] : List Value).toArray s = true := fun w h => atoms_spec (ws := (Cond.code my_D_nextDue cd_D_nextDue 5 (some (.object "BarrierDispatch$Block")) :: bg_tbl)) BB.pre w (List.mem_cons_of_mem _ h)
  have hown : s.vm.findClass rn_D = some m.cls := findClass_of_methodNamed BB.named
  have hlocks := BB.notSynchronized
  have h12 := cl_12 hC
  have h160 := cl_160 hC
  have h3q := cl_3 hC
  have hM4 := cl_M4 hC
  have hM5 := cl_M5 hC
  have hl := lv_entry ([.ref (ad 0)]) (n := 5) (Nat.le_of_ble_eq_true rfl)
  rw [lg_entry_eq]
  generalize (lg_sl ([.ref (ad 0)]) ++ List.replicate (5 - (lg_sl ([.ref (ad 0)])).length) Slot.unset).toArray = ls at hl ⊢
  have hl : lv_has ls 5 [(0, .ref (ad 0))] := hl
  have lp : ∀ (n : Nat) (i : Nat) (o : Option Nat) (ls : Array Slot), (n + i = N 6 0) → (o = cs_d M G i) → (∀ z, o = some z → z < N 6 0) →  lv_has ls 5 [(0, .ref (ad 0)), (1, va_rf (o.map (fun b => ad (20 + b)))), (2, .int (nI i))] → W p l e (headSpec (Cond.code my_D_nextDue cd_D_nextDue 5 (some (.object "BarrierDispatch$Block")) :: bg_tbl) ({ frames := 0, cells := 0, slots := 0, locals := 0 })).room s m ([.ref (ad 0)] : List Value).toArray below meth c s.heap [] 0 0 (MQ below (va_Sq (fun r => r = ((cs_d M G (N 6 0)).map (fun t => 20 + t)).map ad)) ([.ref (ad 0)] : List Value).toArray s 0 0 (fun _ => False)) (F0 m 4 ls []) := by
    intro n
    induction n with
    | zero =>
      intro i o ls hk he ho9 hl
      cases o with
      | none =>
        have hl : lv_has ls 5 [(0, .ref (ad 0)), (1, .null), (2, .int (nI i))] := hl
        refine lv_iload_n hx hb dd_D_nextDue_4 rfl (lv_at hl 2 rfl) ?_
        refine lv_aload_n hx hb dd_D_nextDue_5 rfl (lv_at hl 0 rfl) ?_
        refine cw_get1 (k := 0) (C := rn_D) (T := ft_D) (NF := 9) (v := .int (nI (M 0 5))) hx hb hts tw_fs_D hown hK hP (hks.1 0 (by decide)) (cw_C0 ad ca _ _ _ _) rfl 5 (by decide) (hts _ tw_fl_D_181) rfl rfl dd_D_nextDue_6 ?_
        refine bq_ge (tgt := 75) hx hb (by omega) (hMB _ _) dd_D_nextDue_9 rfl (fun h9 => ?_) (fun h9 => ?_)
        · refine lv_aload_nN hx hb dd_D_nextDue_75 rfl (lv_at hl 1 rfl) ?_
          exact W.aret hx hb hr (Or.inl ⟨_, rfl⟩) (Or.inl rfl) (fun tt htt hWW => ⟨none, rfl, (by rw [show N 6 0 = i by omega, ← he]; rfl), htt⟩) (fun _ h => by cases h) dd_D_nextDue_76
        · exact absurd h9 (by omega)
      | some b =>
        have hl : lv_has ls 5 [(0, .ref (ad 0)), (1, .ref (ad (20 + b))), (2, .int (nI i))] := hl
        have hbl := ho9 b rfl
        refine lv_iload_n hx hb dd_D_nextDue_4 rfl (lv_at hl 2 rfl) ?_
        refine lv_aload_n hx hb dd_D_nextDue_5 rfl (lv_at hl 0 rfl) ?_
        refine cw_get1 (k := 0) (C := rn_D) (T := ft_D) (NF := 9) (v := .int (nI (M 0 5))) hx hb hts tw_fs_D hown hK hP (hks.1 0 (by decide)) (cw_C0 ad ca _ _ _ _) rfl 5 (by decide) (hts _ tw_fl_D_181) rfl rfl dd_D_nextDue_6 ?_
        refine bq_ge (tgt := 75) hx hb (by omega) (hMB _ _) dd_D_nextDue_9 rfl (fun h9 => ?_) (fun h9 => ?_)
        · refine lv_aload_n hx hb dd_D_nextDue_75 rfl (lv_at hl 1 rfl) ?_
          exact W.aret hx hb hr (Or.inl ⟨_, rfl⟩) (Or.inr ⟨_, rfl⟩) (fun tt htt hWW => ⟨some (ad (20 + b)), rfl, (by rw [show N 6 0 = i by omega, ← he]; rfl), htt⟩) (fun _ h => by cases h) dd_D_nextDue_76
        · exact absurd h9 (by omega)
    | succ n ih =>
      intro i o ls hk he ho9 hl
      cases o with
      | none =>
        have hl : lv_has ls 5 [(0, .ref (ad 0)), (1, .null), (2, .int (nI i))] := hl
        refine lv_iload_n hx hb dd_D_nextDue_4 rfl (lv_at hl 2 rfl) ?_
        refine lv_aload_n hx hb dd_D_nextDue_5 rfl (lv_at hl 0 rfl) ?_
        refine cw_get1 (k := 0) (C := rn_D) (T := ft_D) (NF := 9) (v := .int (nI (M 0 5))) hx hb hts tw_fs_D hown hK hP (hks.1 0 (by decide)) (cw_C0 ad ca _ _ _ _) rfl 5 (by decide) (hts _ tw_fl_D_181) rfl rfl dd_D_nextDue_6 ?_
        refine bq_ge (tgt := 75) hx hb (by omega) (hMB _ _) dd_D_nextDue_9 rfl (fun h9 => ?_) (fun h9 => ?_)
        · exact absurd h9 (by omega)
        · refine lv_aload_n hx hb dd_D_nextDue_12 rfl (lv_at hl 0 rfl) ?_
          refine cw_getk (k := 0) (C := rn_D) (T := ft_D) (NF := 9) hx hb hts tw_fs_D hown hK hP (hks.1 0 (by decide)) (cw_C0 ad ca _ _ _ _) rfl 2 (by decide) (hts _ tw_fl_D_30) rfl rfl (cl_F2 hC) dd_D_nextDue_13 ?_
          refine lv_iload_n hx hb dd_D_nextDue_16 rfl (lv_at hl 2 rfl) ?_
          refine cw_aalk (k := 2) (t0 := 1) hx hb hK hP (hks.1 2 (by decide)) (by decide) (by decide) rfl (j := i) (Nat.lt_of_lt_of_le (by omega) (cl_160 hC)) (cl_b hC (by omega)) dd_D_nextDue_17 ?_
          refine lv_astore_n hx hb dd_D_nextDue_18 rfl hl (by decide) rfl (fun ls hl => ?_)
          have hl : lv_has ls 5 [(3, .ref (ad (20 + i))), (0, .ref (ad 0)), (1, .null), (2, .int (nI i))] := hl
          refine lv_aload_n hx hb dd_D_nextDue_19 rfl (lv_at hl 0 rfl) ?_
          refine cw_get1 (k := 20 + i) (C := rn_B) (T := ft_B) (NF := 11) (v := .int (nI (M (20 + i) 3))) hx hb hts tw_fs_B hown hK hP (hks.2.2 _ (by omega)) (cw_CB _ ad ca _ _ _ _) rfl 3 (by decide) (hts _ tw_fl_D_91) rfl rfl dd_D_nextDue_20 ?_
          refine lv_iconst (v := nI 1) hx hb dd_D_nextDue_23 (by decide) ?_
          refine bq_ne (tgt := 43) hx hb (hMB _ _) (by decide) dd_D_nextDue_24 rfl (fun h24 => ?_) (fun h24 => ?_)
          · refine lv_iconst (v := bd_b false) hx hb dd_D_nextDue_43 (by decide) ?_
            refine lv_istore hx hb dd_D_nextDue_44 hl (by decide) rfl (fun ls hl => ?_)
            have hl : lv_has ls 5 [(4, .int (bd_b false)), (3, .ref (ad (20 + i))), (0, .ref (ad 0)), (1, .null), (2, .int (nI i))] := hl
            refine lv_iload hx hb dd_D_nextDue_46 (lv_at hl 0 rfl) ?_
            refine bq_zeq (tgt := 69) hx hb dd_D_nextDue_48 rfl (fun h48 => ?_) (fun h48 => ?_)
            · refine lv_iinc (k := 4) (v := nI (i + 1)) hx hb dd_D_nextDue_69 hl rfl (nI_1 _) (by decide) rfl (fun ls hl => ?_)
              have hl : lv_has ls 5 [(2, .int (nI (i + 1))), (4, .int (bd_b false)), (3, .ref (ad (20 + i))), (0, .ref (ad 0)), (1, .null)] := hl
              refine lv_goto (tgt := 4) hx hb dd_D_nextDue_72 rfl ?_
              exact ih (i + 1) (none) ls (by omega) (by rw [cs_d, ← he]; simp [cs_i, h9, Nat.not_le.mpr h9, h24]) (by intro z hz; cases hz) (lv_sub hl [3, 4, 0] rfl)
            · cases h48
          · refine lv_aload_n hx hb dd_D_nextDue_27 rfl (lv_at hl 0 rfl) ?_
            refine cw_get1 (k := 20 + i) (C := rn_B) (T := ft_B) (NF := 11) (v := .long (G (20 + i) 8)) hx hb hts tw_fs_B hown hK hP (hks.2.2 _ (by omega)) (cw_CB _ ad ca _ _ _ _) rfl 8 (by decide) (hts _ tw_fl_D_98) rfl rfl dd_D_nextDue_28 ?_
            refine lv_aload_n hx hb dd_D_nextDue_31 rfl (lv_at hl 1 rfl) ?_
            refine cw_get1 (k := 0) (C := rn_D) (T := ft_D) (NF := 9) (v := .long (G 0 8)) hx hb hts tw_fs_D hown hK hP (hks.1 0 (by decide)) (cw_C0 ad ca _ _ _ _) rfl 8 (by decide) (hts _ tw_fl_D_159) rfl rfl dd_D_nextDue_32 ?_
            refine W.lcmp hx hb dd_D_nextDue_35 ?_
            refine bq_lgt (tgt := 43) hx hb dd_D_nextDue_36 rfl (fun h36 => ?_) (fun h36 => ?_)
            · refine lv_iconst (v := bd_b false) hx hb dd_D_nextDue_43 (by decide) ?_
              refine lv_istore hx hb dd_D_nextDue_44 hl (by decide) rfl (fun ls hl => ?_)
              have hl : lv_has ls 5 [(4, .int (bd_b false)), (3, .ref (ad (20 + i))), (0, .ref (ad 0)), (1, .null), (2, .int (nI i))] := hl
              refine lv_iload hx hb dd_D_nextDue_46 (lv_at hl 0 rfl) ?_
              refine bq_zeq (tgt := 69) hx hb dd_D_nextDue_48 rfl (fun h48 => ?_) (fun h48 => ?_)
              · refine lv_iinc (k := 4) (v := nI (i + 1)) hx hb dd_D_nextDue_69 hl rfl (nI_1 _) (by decide) rfl (fun ls hl => ?_)
                have hl : lv_has ls 5 [(2, .int (nI (i + 1))), (4, .int (bd_b false)), (3, .ref (ad (20 + i))), (0, .ref (ad 0)), (1, .null)] := hl
                refine lv_goto (tgt := 4) hx hb dd_D_nextDue_72 rfl ?_
                exact ih (i + 1) (none) ls (by omega) (by rw [cs_d, ← he]; simp [cs_i, h9, Nat.not_le.mpr h9, h24, Int64.not_le.mpr h36]) (by intro z hz; cases hz) (lv_sub hl [3, 4, 0] rfl)
              · cases h48
            · refine lv_iconst (v := bd_b true) hx hb dd_D_nextDue_39 (by decide) ?_
              refine lv_goto (tgt := 44) hx hb dd_D_nextDue_40 rfl ?_
              refine lv_istore hx hb dd_D_nextDue_44 hl (by decide) rfl (fun ls hl => ?_)
              have hl : lv_has ls 5 [(4, .int (bd_b true)), (3, .ref (ad (20 + i))), (0, .ref (ad 0)), (1, .null), (2, .int (nI i))] := hl
              refine lv_iload hx hb dd_D_nextDue_46 (lv_at hl 0 rfl) ?_
              refine bq_zeq (tgt := 69) hx hb dd_D_nextDue_48 rfl (fun h48 => ?_) (fun h48 => ?_)
              · cases h48
              · refine lv_aload_nN hx hb dd_D_nextDue_51 rfl (lv_at hl 3 rfl) ?_
                refine lv_ifnullN (tgt := 67) hx hb dd_D_nextDue_52 rfl ?_
                refine lv_aload_n hx hb dd_D_nextDue_67 rfl (lv_at hl 1 rfl) ?_
                refine lv_astore_n hx hb dd_D_nextDue_68 rfl hl (by decide) rfl (fun ls hl => ?_)
                have hl : lv_has ls 5 [(1, .ref (ad (20 + i))), (4, .int (bd_b true)), (3, .ref (ad (20 + i))), (0, .ref (ad 0)), (2, .int (nI i))] := hl
                refine lv_iinc (k := 4) (v := nI (i + 1)) hx hb dd_D_nextDue_69 hl rfl (nI_1 _) (by decide) rfl (fun ls hl => ?_)
                have hl : lv_has ls 5 [(2, .int (nI (i + 1))), (1, .ref (ad (20 + i))), (4, .int (bd_b true)), (3, .ref (ad (20 + i))), (0, .ref (ad 0))] := hl
                refine lv_goto (tgt := 4) hx hb dd_D_nextDue_72 rfl ?_
                exact ih (i + 1) (some i) ls (by omega) (by rw [cs_d, ← he]; simp [cs_i, h9, Nat.not_le.mpr h9, h24, h36]) (by intro z hz; cases hz; omega) (lv_sub hl [4, 1, 0] rfl)
      | some b =>
        have hl : lv_has ls 5 [(0, .ref (ad 0)), (1, .ref (ad (20 + b))), (2, .int (nI i))] := hl
        have hbl := ho9 b rfl
        refine lv_iload_n hx hb dd_D_nextDue_4 rfl (lv_at hl 2 rfl) ?_
        refine lv_aload_n hx hb dd_D_nextDue_5 rfl (lv_at hl 0 rfl) ?_
        refine cw_get1 (k := 0) (C := rn_D) (T := ft_D) (NF := 9) (v := .int (nI (M 0 5))) hx hb hts tw_fs_D hown hK hP (hks.1 0 (by decide)) (cw_C0 ad ca _ _ _ _) rfl 5 (by decide) (hts _ tw_fl_D_181) rfl rfl dd_D_nextDue_6 ?_
        refine bq_ge (tgt := 75) hx hb (by omega) (hMB _ _) dd_D_nextDue_9 rfl (fun h9 => ?_) (fun h9 => ?_)
        · exact absurd h9 (by omega)
        · refine lv_aload_n hx hb dd_D_nextDue_12 rfl (lv_at hl 0 rfl) ?_
          refine cw_getk (k := 0) (C := rn_D) (T := ft_D) (NF := 9) hx hb hts tw_fs_D hown hK hP (hks.1 0 (by decide)) (cw_C0 ad ca _ _ _ _) rfl 2 (by decide) (hts _ tw_fl_D_30) rfl rfl (cl_F2 hC) dd_D_nextDue_13 ?_
          refine lv_iload_n hx hb dd_D_nextDue_16 rfl (lv_at hl 2 rfl) ?_
          refine cw_aalk (k := 2) (t0 := 1) hx hb hK hP (hks.1 2 (by decide)) (by decide) (by decide) rfl (j := i) (Nat.lt_of_lt_of_le (by omega) (cl_160 hC)) (cl_b hC (by omega)) dd_D_nextDue_17 ?_
          refine lv_astore_n hx hb dd_D_nextDue_18 rfl hl (by decide) rfl (fun ls hl => ?_)
          have hl : lv_has ls 5 [(3, .ref (ad (20 + i))), (0, .ref (ad 0)), (1, .ref (ad (20 + b))), (2, .int (nI i))] := hl
          refine lv_aload_n hx hb dd_D_nextDue_19 rfl (lv_at hl 0 rfl) ?_
          refine cw_get1 (k := 20 + i) (C := rn_B) (T := ft_B) (NF := 11) (v := .int (nI (M (20 + i) 3))) hx hb hts tw_fs_B hown hK hP (hks.2.2 _ (by omega)) (cw_CB _ ad ca _ _ _ _) rfl 3 (by decide) (hts _ tw_fl_D_91) rfl rfl dd_D_nextDue_20 ?_
          refine lv_iconst (v := nI 1) hx hb dd_D_nextDue_23 (by decide) ?_
          refine bq_ne (tgt := 43) hx hb (hMB _ _) (by decide) dd_D_nextDue_24 rfl (fun h24 => ?_) (fun h24 => ?_)
          · refine lv_iconst (v := bd_b false) hx hb dd_D_nextDue_43 (by decide) ?_
            refine lv_istore hx hb dd_D_nextDue_44 hl (by decide) rfl (fun ls hl => ?_)
            have hl : lv_has ls 5 [(4, .int (bd_b false)), (3, .ref (ad (20 + i))), (0, .ref (ad 0)), (1, .ref (ad (20 + b))), (2, .int (nI i))] := hl
            refine lv_iload hx hb dd_D_nextDue_46 (lv_at hl 0 rfl) ?_
            refine bq_zeq (tgt := 69) hx hb dd_D_nextDue_48 rfl (fun h48 => ?_) (fun h48 => ?_)
            · refine lv_iinc (k := 4) (v := nI (i + 1)) hx hb dd_D_nextDue_69 hl rfl (nI_1 _) (by decide) rfl (fun ls hl => ?_)
              have hl : lv_has ls 5 [(2, .int (nI (i + 1))), (4, .int (bd_b false)), (3, .ref (ad (20 + i))), (0, .ref (ad 0)), (1, .ref (ad (20 + b)))] := hl
              refine lv_goto (tgt := 4) hx hb dd_D_nextDue_72 rfl ?_
              exact ih (i + 1) (some b) ls (by omega) (by rw [cs_d, ← he]; simp [cs_i, h9, Nat.not_le.mpr h9, h24]) (by intro z hz; cases hz; omega) (lv_sub hl [3, 4, 0] rfl)
            · cases h48
          · refine lv_aload_n hx hb dd_D_nextDue_27 rfl (lv_at hl 0 rfl) ?_
            refine cw_get1 (k := 20 + i) (C := rn_B) (T := ft_B) (NF := 11) (v := .long (G (20 + i) 8)) hx hb hts tw_fs_B hown hK hP (hks.2.2 _ (by omega)) (cw_CB _ ad ca _ _ _ _) rfl 8 (by decide) (hts _ tw_fl_D_98) rfl rfl dd_D_nextDue_28 ?_
            refine lv_aload_n hx hb dd_D_nextDue_31 rfl (lv_at hl 1 rfl) ?_
            refine cw_get1 (k := 0) (C := rn_D) (T := ft_D) (NF := 9) (v := .long (G 0 8)) hx hb hts tw_fs_D hown hK hP (hks.1 0 (by decide)) (cw_C0 ad ca _ _ _ _) rfl 8 (by decide) (hts _ tw_fl_D_159) rfl rfl dd_D_nextDue_32 ?_
            refine W.lcmp hx hb dd_D_nextDue_35 ?_
            refine bq_lgt (tgt := 43) hx hb dd_D_nextDue_36 rfl (fun h36 => ?_) (fun h36 => ?_)
            · refine lv_iconst (v := bd_b false) hx hb dd_D_nextDue_43 (by decide) ?_
              refine lv_istore hx hb dd_D_nextDue_44 hl (by decide) rfl (fun ls hl => ?_)
              have hl : lv_has ls 5 [(4, .int (bd_b false)), (3, .ref (ad (20 + i))), (0, .ref (ad 0)), (1, .ref (ad (20 + b))), (2, .int (nI i))] := hl
              refine lv_iload hx hb dd_D_nextDue_46 (lv_at hl 0 rfl) ?_
              refine bq_zeq (tgt := 69) hx hb dd_D_nextDue_48 rfl (fun h48 => ?_) (fun h48 => ?_)
              · refine lv_iinc (k := 4) (v := nI (i + 1)) hx hb dd_D_nextDue_69 hl rfl (nI_1 _) (by decide) rfl (fun ls hl => ?_)
                have hl : lv_has ls 5 [(2, .int (nI (i + 1))), (4, .int (bd_b false)), (3, .ref (ad (20 + i))), (0, .ref (ad 0)), (1, .ref (ad (20 + b)))] := hl
                refine lv_goto (tgt := 4) hx hb dd_D_nextDue_72 rfl ?_
                exact ih (i + 1) (some b) ls (by omega) (by rw [cs_d, ← he]; simp [cs_i, h9, Nat.not_le.mpr h9, h24, Int64.not_le.mpr h36]) (by intro z hz; cases hz; omega) (lv_sub hl [3, 4, 0] rfl)
              · cases h48
            · refine lv_iconst (v := bd_b true) hx hb dd_D_nextDue_39 (by decide) ?_
              refine lv_goto (tgt := 44) hx hb dd_D_nextDue_40 rfl ?_
              refine lv_istore hx hb dd_D_nextDue_44 hl (by decide) rfl (fun ls hl => ?_)
              have hl : lv_has ls 5 [(4, .int (bd_b true)), (3, .ref (ad (20 + i))), (0, .ref (ad 0)), (1, .ref (ad (20 + b))), (2, .int (nI i))] := hl
              refine lv_iload hx hb dd_D_nextDue_46 (lv_at hl 0 rfl) ?_
              refine bq_zeq (tgt := 69) hx hb dd_D_nextDue_48 rfl (fun h48 => ?_) (fun h48 => ?_)
              · cases h48
              · refine lv_aload_n hx hb dd_D_nextDue_51 rfl (lv_at hl 3 rfl) ?_
                refine lv_ifnull hx hb dd_D_nextDue_52 ?_
                refine lv_aload_n hx hb dd_D_nextDue_55 rfl (lv_at hl 1 rfl) ?_
                refine cw_get1 (k := 20 + i) (C := rn_B) (T := ft_B) (NF := 11) (v := .long (G (20 + i) 8)) hx hb hts tw_fs_B hown hK hP (hks.2.2 _ (by omega)) (cw_CB _ ad ca _ _ _ _) rfl 8 (by decide) (hts _ tw_fl_D_98) rfl rfl dd_D_nextDue_56 ?_
                refine lv_aload_n hx hb dd_D_nextDue_59 rfl (lv_at hl 3 rfl) ?_
                refine cw_get1 (k := 20 + b) (C := rn_B) (T := ft_B) (NF := 11) (v := .long (G (20 + b) 8)) hx hb hts tw_fs_B hown hK hP (hks.2.2 _ (by omega)) (cw_CB _ ad ca _ _ _ _) rfl 8 (by decide) (hts _ tw_fl_D_98) rfl rfl dd_D_nextDue_60 ?_
                refine W.lcmp hx hb dd_D_nextDue_63 ?_
                refine bq_lge (tgt := 69) hx hb dd_D_nextDue_64 rfl (fun h64 => ?_) (fun h64 => ?_)
                · refine lv_iinc (k := 4) (v := nI (i + 1)) hx hb dd_D_nextDue_69 hl rfl (nI_1 _) (by decide) rfl (fun ls hl => ?_)
                  have hl : lv_has ls 5 [(2, .int (nI (i + 1))), (4, .int (bd_b true)), (3, .ref (ad (20 + i))), (0, .ref (ad 0)), (1, .ref (ad (20 + b)))] := hl
                  refine lv_goto (tgt := 4) hx hb dd_D_nextDue_72 rfl ?_
                  exact ih (i + 1) (some b) ls (by omega) (by rw [cs_d, ← he]; simp [cs_i, h9, Nat.not_le.mpr h9, h24, h36, Int64.not_lt.mpr h64]) (by intro z hz; cases hz; omega) (lv_sub hl [3, 4, 0] rfl)
                · refine lv_aload_n hx hb dd_D_nextDue_67 rfl (lv_at hl 1 rfl) ?_
                  refine lv_astore_n hx hb dd_D_nextDue_68 rfl hl (by decide) rfl (fun ls hl => ?_)
                  have hl : lv_has ls 5 [(1, .ref (ad (20 + i))), (4, .int (bd_b true)), (3, .ref (ad (20 + i))), (0, .ref (ad 0)), (2, .int (nI i))] := hl
                  refine lv_iinc (k := 4) (v := nI (i + 1)) hx hb dd_D_nextDue_69 hl rfl (nI_1 _) (by decide) rfl (fun ls hl => ?_)
                  have hl : lv_has ls 5 [(2, .int (nI (i + 1))), (1, .ref (ad (20 + i))), (4, .int (bd_b true)), (3, .ref (ad (20 + i))), (0, .ref (ad 0))] := hl
                  refine lv_goto (tgt := 4) hx hb dd_D_nextDue_72 rfl ?_
                  exact ih (i + 1) (some i) ls (by omega) (by rw [cs_d, ← he]; simp [cs_i, h9, Nat.not_le.mpr h9, h24, h36, h64]) (by intro z hz; cases hz; omega) (lv_sub hl [4, 1, 0] rfl)
  refine lv_null hx hb dd_D_nextDue_0 ?_
  refine lv_astore_nN hx hb dd_D_nextDue_1 rfl hl (by decide) rfl (fun ls hl => ?_)
  have hl : lv_has ls 5 [(1, .null), (0, .ref (ad 0))] := hl
  refine lv_iconst (v := nI 0) hx hb dd_D_nextDue_2 (by decide) ?_
  refine lv_istore_n hx hb dd_D_nextDue_3 rfl hl (by decide) rfl (fun ls hl => ?_)
  have hl : lv_has ls 5 [(2, .int (nI 0)), (1, .null), (0, .ref (ad 0))] := hl
  exact lp (N 6 0) 0 none ls (by omega) rfl (fun z hz => by cases hz) (lv_sub hl [2, 1, 0] rfl)
end
section
/-! Part 25: the class: wouldDeadlock, deadlineIn, now. By wip/gen/gen_cls3.py. -/
theorem cs_ic_n (N : sp_N) (O : sp_O) (B : sp_B) (y : Nat) (sh : Bool) (n : Nat) : cs_ic N O B y sh n none = false := by cases n <;> rfl
set_option maxHeartbeats 4000000 in
set_option maxRecDepth 100000 in
theorem cc_D_wouldDeadlock (l : Launch) (D : va_G) (ks : List Nat) (ad : Nat → Nat) (ca : Nat → ClassId) (M : sp_N) (X : sp_B) (F : sp_O) (G : sp_Z) (N : sp_N) (O : sp_O) (B : sp_B) (hC : cl_S M X F N O B) (hks : cl_k ks N) (hMB : cl_B M) (hJ : cw_J ks ad) (c9 j : Nat) (bar : Bool) (hc : c9 < N 6 0) (hj : j < N 1 0) : Met l my_D_wouldDeadlock (Cond.code my_D_wouldDeadlock cd_D_wouldDeadlock 7 (some .boolean) :: bg_tbl) ({ frames := 1, cells := 0, slots := 0, locals := 22 }) (va_Pc [.ref (ad (20 + c9)), .ref (ad (8 + j)), .int (bd_b bar)] (cw_U D ks ad ca M X F G)) (vp_Si (fun r => r = bd_b (cs_dk M N O B c9 j bar))) 0 0 (fun _ => False) := by
  refine Met.ofW (cc := cd_D_wouldDeadlock) (maxL := 7) (ret := (some .boolean)) (by decide) rfl ?_
  intro p e s m args below meth c s₁ BB hml hv
  obtain ⟨rfl, hP, hK⟩ := hv
  have hx := BB.exec
  have hb := BB.bytes
  have hr := BB.returns
  have hts : ∀ w ∈ bg_tbl, w.before ([.ref (ad (20 + c9)), .ref (ad (8 + j)), .int (bd_b bar)] : List Value).toArray s = true := fun w h => atoms_spec (ws := (Cond.code my_D_wouldDeadlock cd_D_wouldDeadlock 7 (some .boolean) :: bg_tbl)) BB.pre w (List.mem_cons_of_mem _ h)
  have hown : s.vm.findClass rn_D = some m.cls := findClass_of_methodNamed BB.named
  have hlocks := BB.notSynchronized
  have h12 := cl_12 hC
  have h160 := cl_160 hC
  have h3q := cl_3 hC
  have hM4 := cl_M4 hC
  have hM5 := cl_M5 hC
  have hl := lv_entry ([.ref (ad (20 + c9)), .ref (ad (8 + j)), .int (bd_b bar)]) (n := 7) (Nat.le_of_ble_eq_true rfl)
  rw [lg_entry_eq]
  generalize (lg_sl ([.ref (ad (20 + c9)), .ref (ad (8 + j)), .int (bd_b bar)]) ++ List.replicate (7 - (lg_sl ([.ref (ad (20 + c9)), .ref (ad (8 + j)), .int (bd_b bar)])).length) Slot.unset).toArray = ls at hl ⊢
  have hl : lv_has ls 7 [(0, .ref (ad (20 + c9))), (1, .ref (ad (8 + j))), (2, .int (bd_b bar))] := hl
  have lp : ∀ y, y < N 1 0 → ∀  (ls : Array Slot), (sp_a (fun x => sp_l N y x && cs_dp M N O B c9 j bar x) (N 1 0) = cs_dk M N O B c9 j bar) →  lv_has ls 7 [(0, .ref (ad (20 + c9))), (1, .ref (ad (8 + j))), (2, .int (bd_b bar)), (3, .ref (ad (8 + y)))] → W p l e (headSpec (Cond.code my_D_wouldDeadlock cd_D_wouldDeadlock 7 (some .boolean) :: bg_tbl) ({ frames := 1, cells := 0, slots := 0, locals := 22 })).room s m ([.ref (ad (20 + c9)), .ref (ad (8 + j)), .int (bd_b bar)] : List Value).toArray below meth c s.heap [] 0 0 (MQ below (vp_Si (fun r => r = bd_b (cs_dk M N O B c9 j bar))) ([.ref (ad (20 + c9)), .ref (ad (8 + j)), .int (bd_b bar)] : List Value).toArray s 0 0 (fun _ => False)) (F0 m 2 ls []) := by
    refine sp_ind (cl_tr hC) (fun y hj3  ls he hl => ?_) (fun y hj3 hy ih  ls he hl => ?_)
    · have hy : y < N 1 0 := by omega
      refine lv_aload_n hx hb dd_D_wouldDeadlock_2 rfl (lv_at hl 3 rfl) ?_
      refine lv_ifnull hx hb dd_D_wouldDeadlock_3 ?_
      refine lv_aload_n hx hb dd_D_wouldDeadlock_6 rfl (lv_at hl 3 rfl) ?_
      refine cw_calli (k := 8 + y) (C := rn_Q) (T := ft_Q) (NF := 10) (As := []) (rest := []) (v := bd_b (decide (y < 3))) ⟨hx, hb, hml, hown, hts⟩ (cc_Q_isRoot l D ks ad ca M X F G N O B hC hks hMB y hy) (bg_cwV 0 hts tw_ml_D_51 tw_im_Q_isRoot tw_se_Q_isRoot tw_in_Q tw_co_Q_isRoot rfl rfl th_Q_isRoot ⟨Nat.le_of_ble_eq_true rfl, Nat.le_of_ble_eq_true rfl⟩) hK hP (hks.2.1 _ hy) (cw_CQ (Nat.lt_of_lt_of_le hy (cl_12 hC)) ad ca _ _ _ _) rfl rfl hl.1 rfl (by decide) dd_D_wouldDeadlock_7 ⟨Nat.zero_le _, Nat.zero_le _⟩ ?_
      refine bq_zne (tgt := 111) hx hb dd_D_wouldDeadlock_10 rfl (fun h10 => ?_) (fun h10 => ?_)
      · refine lv_iconst (v := bd_b false) hx hb dd_D_wouldDeadlock_111 (by decide) ?_
        exact W.zret (ty := .boolean) hx hb hr (bd_b_nar _) (fun tt htt hWW => ⟨_, rfl, (by rw [← he, sp_any (cl_tr hC) _ hy, show cs_dp M N O B c9 j bar y = false from by rw [cs_dp, decide_eq_false (by omega)]; rfl, decide_eq_false (by omega)]; rfl), htt⟩) (fun _ h => by cases h) dd_D_wouldDeadlock_112
      · rw [decide_eq_true hj3] at h10; cases h10
    · have hyl := cl_tl hC hy hj3
      refine lv_aload_n hx hb dd_D_wouldDeadlock_2 rfl (lv_at hl 3 rfl) ?_
      refine lv_ifnull hx hb dd_D_wouldDeadlock_3 ?_
      refine lv_aload_n hx hb dd_D_wouldDeadlock_6 rfl (lv_at hl 3 rfl) ?_
      refine cw_calli (k := 8 + y) (C := rn_Q) (T := ft_Q) (NF := 10) (As := []) (rest := []) (v := bd_b (decide (y < 3))) ⟨hx, hb, hml, hown, hts⟩ (cc_Q_isRoot l D ks ad ca M X F G N O B hC hks hMB y hy) (bg_cwV 0 hts tw_ml_D_51 tw_im_Q_isRoot tw_se_Q_isRoot tw_in_Q tw_co_Q_isRoot rfl rfl th_Q_isRoot ⟨Nat.le_of_ble_eq_true rfl, Nat.le_of_ble_eq_true rfl⟩) hK hP (hks.2.1 _ hy) (cw_CQ (Nat.lt_of_lt_of_le hy (cl_12 hC)) ad ca _ _ _ _) rfl rfl hl.1 rfl (by decide) dd_D_wouldDeadlock_7 ⟨Nat.zero_le _, Nat.zero_le _⟩ ?_
      refine bq_zne (tgt := 111) hx hb dd_D_wouldDeadlock_10 rfl (fun h10 => ?_) (fun h10 => ?_)
      · rw [decide_eq_false (by omega)] at h10; cases h10
      · have lq : ∀ (n : Nat) (cu : Option Nat) (sh : Bool) (ls : Array Slot), (∀ z, cu = some z → z < n ∧ z < N 6 0) → (sh = cs_sh M j bar y) → (cs_ic N O B y sh n cu = cs_ic N O B y (cs_sh M j bar y) 160 (some c9)) → lv_has ls 7 [(0, .ref (ad (20 + c9))), (1, .ref (ad (8 + j))), (2, .int (bd_b bar)), (3, .ref (ad (8 + y))), (4, .int (bd_b sh)), (5, va_rf (cu.map (fun q => ad (20 + q))))] → W p l e (headSpec (Cond.code my_D_wouldDeadlock cd_D_wouldDeadlock 7 (some .boolean) :: bg_tbl) ({ frames := 1, cells := 0, slots := 0, locals := 22 })).room s m ([.ref (ad (20 + c9)), .ref (ad (8 + j)), .int (bd_b bar)] : List Value).toArray below meth c s.heap [] 0 0 (MQ below (vp_Si (fun r => r = bd_b (cs_dk M N O B c9 j bar))) ([.ref (ad (20 + c9)), .ref (ad (8 + j)), .int (bd_b bar)] : List Value).toArray s 0 0 (fun _ => False)) (F0 m 40 ls []) := by
          intro n
          induction n with
          | zero =>
            intro cu sh ls hcu hsh hi hl
            cases cu with
            | none =>
              have hl : lv_has ls 7 [(0, .ref (ad (20 + c9))), (1, .ref (ad (8 + j))), (2, .int (bd_b bar)), (3, .ref (ad (8 + y))), (4, .int (bd_b sh)), (5, .null)] := hl
              refine lv_aloadN hx hb dd_D_wouldDeadlock_40 (lv_at hl 5 rfl) ?_
              refine lv_ifnullN (tgt := 103) hx hb dd_D_wouldDeadlock_42 rfl ?_
              refine lv_aload_n hx hb dd_D_wouldDeadlock_103 rfl (lv_at hl 3 rfl) ?_
              refine cw_getk (k := 8 + y) (C := rn_Q) (T := ft_Q) (NF := 10) hx hb hts tw_fs_Q hown hK hP (hks.2.1 _ hy) (cw_CQ (Nat.lt_of_lt_of_le hy (cl_12 hC)) ad ca _ _ _ _) rfl 2 (by decide) (hts _ tw_fl_D_62) rfl rfl (cl_t1 hC hy hj3) dd_D_wouldDeadlock_104 ?_
              refine lv_astore_n hx hb dd_D_wouldDeadlock_107 rfl hl (by decide) rfl (fun ls hl => ?_)
              have hl : lv_has ls 7 [(3, .ref (ad (8 + N 2 y))), (0, .ref (ad (20 + c9))), (1, .ref (ad (8 + j))), (2, .int (bd_b bar)), (4, .int (bd_b sh)), (5, .null)] := hl
              refine lv_goto (tgt := 2) hx hb dd_D_wouldDeadlock_108 rfl ?_
              exact ih ls (by rw [← he, sp_any (cl_tr hC) _ hy, show cs_dp M N O B c9 j bar y = false from by rw [cs_dp, ← hi, cs_ic_n, Bool.and_false], decide_eq_true hj3]; rfl) (lv_sub hl [1, 2, 3, 0] rfl)
            | some cz =>
              exact absurd (hcu cz rfl).1 (by omega)
          | succ n ih2 =>
            intro cu sh ls hcu hsh hi hl
            cases cu with
            | none =>
              have hl : lv_has ls 7 [(0, .ref (ad (20 + c9))), (1, .ref (ad (8 + j))), (2, .int (bd_b bar)), (3, .ref (ad (8 + y))), (4, .int (bd_b sh)), (5, .null)] := hl
              refine lv_aloadN hx hb dd_D_wouldDeadlock_40 (lv_at hl 5 rfl) ?_
              refine lv_ifnullN (tgt := 103) hx hb dd_D_wouldDeadlock_42 rfl ?_
              refine lv_aload_n hx hb dd_D_wouldDeadlock_103 rfl (lv_at hl 3 rfl) ?_
              refine cw_getk (k := 8 + y) (C := rn_Q) (T := ft_Q) (NF := 10) hx hb hts tw_fs_Q hown hK hP (hks.2.1 _ hy) (cw_CQ (Nat.lt_of_lt_of_le hy (cl_12 hC)) ad ca _ _ _ _) rfl 2 (by decide) (hts _ tw_fl_D_62) rfl rfl (cl_t1 hC hy hj3) dd_D_wouldDeadlock_104 ?_
              refine lv_astore_n hx hb dd_D_wouldDeadlock_107 rfl hl (by decide) rfl (fun ls hl => ?_)
              have hl : lv_has ls 7 [(3, .ref (ad (8 + N 2 y))), (0, .ref (ad (20 + c9))), (1, .ref (ad (8 + j))), (2, .int (bd_b bar)), (4, .int (bd_b sh)), (5, .null)] := hl
              refine lv_goto (tgt := 2) hx hb dd_D_wouldDeadlock_108 rfl ?_
              exact ih ls (by rw [← he, sp_any (cl_tr hC) _ hy, show cs_dp M N O B c9 j bar y = false from by rw [cs_dp, ← hi, cs_ic_n, Bool.and_false], decide_eq_true hj3]; rfl) (lv_sub hl [1, 2, 3, 0] rfl)
            | some cz =>
              have hl : lv_has ls 7 [(0, .ref (ad (20 + c9))), (1, .ref (ad (8 + j))), (2, .int (bd_b bar)), (3, .ref (ad (8 + y))), (4, .int (bd_b sh)), (5, .ref (ad (20 + cz)))] := hl
              have hcz := hcu cz rfl
              refine lv_aload hx hb dd_D_wouldDeadlock_40 (lv_at hl 5 rfl) ?_
              refine lv_ifnull hx hb dd_D_wouldDeadlock_42 ?_
              refine lv_aload hx hb dd_D_wouldDeadlock_45 (lv_at hl 5 rfl) ?_
              refine cw_get1 (k := 20 + cz) (C := rn_B) (T := ft_B) (NF := 11) (v := .int (bd_b (X (20 + cz) 2))) hx hb hts tw_fs_B hown hK hP (hks.2.2 _ hcz.2) (cw_CB _ ad ca _ _ _ _) rfl 2 (by decide) (hts _ tw_fl_D_201) rfl rfl dd_D_wouldDeadlock_47 ?_
              rw [cl_x hC hcz.2]
              refine bq_zeq (tgt := 66) hx hb dd_D_wouldDeadlock_50 rfl (fun h50 => ?_) (fun h50 => ?_)
              · refine lv_iconst (v := bd_b false) hx hb dd_D_wouldDeadlock_66 (by decide) ?_
                refine lv_istore hx hb dd_D_wouldDeadlock_67 hl (by decide) rfl (fun ls hl => ?_)
                have hl : lv_has ls 7 [(6, .int (bd_b false)), (0, .ref (ad (20 + c9))), (1, .ref (ad (8 + j))), (2, .int (bd_b bar)), (3, .ref (ad (8 + y))), (4, .int (bd_b sh)), (5, .ref (ad (20 + cz)))] := hl
                refine lv_iload hx hb dd_D_wouldDeadlock_69 (lv_at hl 5 rfl) ?_
                refine bq_zne (tgt := 79) hx hb dd_D_wouldDeadlock_71 rfl (fun h71 => ?_) (fun h71 => ?_)
                · refine lv_aload hx hb dd_D_wouldDeadlock_79 (lv_at hl 6 rfl) ?_
                  refine cw_getk (k := 20 + cz) (C := rn_B) (T := ft_B) (NF := 11) hx hb hts tw_fs_B hown hK hP (hks.2.2 _ hcz.2) (cw_CB _ ad ca _ _ _ _) rfl 1 (by decide) (hts _ tw_fl_D_141) rfl rfl (cl_h hC hcz.2) dd_D_wouldDeadlock_81 ?_
                  refine lv_aload_n hx hb dd_D_wouldDeadlock_84 rfl (lv_at hl 4 rfl) ?_
                  refine cw_calli (k := 8 + N 7 cz) (C := rn_Q) (T := ft_Q) (NF := 10) (As := [.ref (ad (8 + y))]) (rest := []) (v := bd_b (sp_l N (N 7 cz) y)) ⟨hx, hb, hml, hown, hts⟩ (cc_Q_leadsTo l D ks ad ca M X F G N O B hC hks hMB hJ (N 7 cz) y (cl_hl hC hcz.2) hy) (bg_cwV 1 hts tw_ml_D_55 tw_im_Q_leadsTo tw_se_Q_leadsTo tw_in_Q tw_co_Q_leadsTo rfl rfl th_Q_leadsTo ⟨Nat.le_of_ble_eq_true rfl, Nat.le_of_ble_eq_true rfl⟩) hK hP (hks.2.1 _ (cl_hl hC hcz.2)) (cw_CQ (Nat.lt_of_lt_of_le (cl_hl hC hcz.2) (cl_12 hC)) ad ca _ _ _ _) rfl rfl hl.1 rfl (by decide) dd_D_wouldDeadlock_85 ⟨Nat.zero_le _, Nat.zero_le _⟩ ?_
                  refine bq_zeq (tgt := 93) hx hb dd_D_wouldDeadlock_88 rfl (fun h88 => ?_) (fun h88 => ?_)
                  · refine lv_aload hx hb dd_D_wouldDeadlock_93 (lv_at hl 6 rfl) ?_
                    refine cw_getr (k := 20 + cz) (C := rn_B) (T := ft_B) (NF := 11) hx hb hts tw_fs_B hown hK hP (hks.2.2 _ hcz.2) (cw_CB _ ad ca _ _ _ _) rfl 5 (by decide) (hts _ tw_fl_D_110) rfl rfl dd_D_wouldDeadlock_95 (fun h95 => ?_) (fun k9 h95 => ?_)
                    · have ho9 := cl_cn hC hcz.2 h95
                      refine lv_astoreN hx hb dd_D_wouldDeadlock_98 hl (by decide) rfl (fun ls hl => ?_)
                      have hl : lv_has ls 7 [(5, .null), (6, .int (bd_b false)), (0, .ref (ad (20 + c9))), (1, .ref (ad (8 + j))), (2, .int (bd_b bar)), (3, .ref (ad (8 + y))), (4, .int (bd_b sh))] := hl
                      refine lv_goto (tgt := 40) hx hb dd_D_wouldDeadlock_100 rfl ?_
                      exact ih2 none sh ls (fun z hz => by cases hz) hsh (by rw [← hi, cs_ic, if_neg (by rw [show ((sh || (B 14 cz && decide (N 7 cz = y))) && sp_l N (N 7 cz) y) = false by simp only [h50, h71, h88, Bool.and_true, Bool.true_and, Bool.and_false, Bool.false_and, Bool.or_true, Bool.true_or, Bool.or_false, Bool.false_or, Bool.and_self, Bool.or_self]]; decide), ho9]) (lv_sub hl [2, 3, 4, 5, 6, 0] rfl)
                    · obtain ⟨cc9, hcc9, hclt, rfl⟩ := cl_cs hC hcz.2 h95
                      refine lv_astore hx hb dd_D_wouldDeadlock_98 hl (by decide) rfl (fun ls hl => ?_)
                      have hl : lv_has ls 7 [(5, .ref (ad (20 + cc9))), (6, .int (bd_b false)), (0, .ref (ad (20 + c9))), (1, .ref (ad (8 + j))), (2, .int (bd_b bar)), (3, .ref (ad (8 + y))), (4, .int (bd_b sh))] := hl
                      refine lv_goto (tgt := 40) hx hb dd_D_wouldDeadlock_100 rfl ?_
                      exact ih2 (some cc9) sh ls (fun z hz => by cases hz; omega) hsh (by rw [← hi, cs_ic, if_neg (by rw [show ((sh || (B 14 cz && decide (N 7 cz = y))) && sp_l N (N 7 cz) y) = false by simp only [h50, h71, h88, Bool.and_true, Bool.true_and, Bool.and_false, Bool.false_and, Bool.or_true, Bool.true_or, Bool.or_false, Bool.false_or, Bool.and_self, Bool.or_self]]; decide), hcc9]) (lv_sub hl [2, 3, 4, 5, 6, 0] rfl)
                  · refine lv_iconst (v := bd_b true) hx hb dd_D_wouldDeadlock_91 (by decide) ?_
                    exact W.zret (ty := .boolean) hx hb hr (bd_b_nar _) (fun tt htt hWW => ⟨_, rfl, (by rw [← he, sp_any (cl_tr hC) _ hy, show cs_dp M N O B c9 j bar y = true from by rw [cs_dp, decide_eq_true hj3, ← hi, cs_ic, if_pos (show ((sh || (B 14 cz && decide (N 7 cz = y))) && sp_l N (N 7 cz) y) = true by simp only [h50, h71, h88, Bool.and_true, Bool.true_and, Bool.and_false, Bool.false_and, Bool.or_true, Bool.true_or, Bool.or_false, Bool.false_or, Bool.and_self, Bool.or_self])]; rfl]; rfl), htt⟩) (fun _ h => by cases h) dd_D_wouldDeadlock_92
                · refine lv_iload hx hb dd_D_wouldDeadlock_74 (lv_at hl 0 rfl) ?_
                  refine bq_zeq (tgt := 93) hx hb dd_D_wouldDeadlock_76 rfl (fun h76 => ?_) (fun h76 => ?_)
                  · refine lv_aload hx hb dd_D_wouldDeadlock_93 (lv_at hl 6 rfl) ?_
                    refine cw_getr (k := 20 + cz) (C := rn_B) (T := ft_B) (NF := 11) hx hb hts tw_fs_B hown hK hP (hks.2.2 _ hcz.2) (cw_CB _ ad ca _ _ _ _) rfl 5 (by decide) (hts _ tw_fl_D_110) rfl rfl dd_D_wouldDeadlock_95 (fun h95 => ?_) (fun k9 h95 => ?_)
                    · have ho9 := cl_cn hC hcz.2 h95
                      refine lv_astoreN hx hb dd_D_wouldDeadlock_98 hl (by decide) rfl (fun ls hl => ?_)
                      have hl : lv_has ls 7 [(5, .null), (6, .int (bd_b false)), (0, .ref (ad (20 + c9))), (1, .ref (ad (8 + j))), (2, .int (bd_b bar)), (3, .ref (ad (8 + y))), (4, .int (bd_b sh))] := hl
                      refine lv_goto (tgt := 40) hx hb dd_D_wouldDeadlock_100 rfl ?_
                      exact ih2 none sh ls (fun z hz => by cases hz) hsh (by rw [← hi, cs_ic, if_neg (by rw [show ((sh || (B 14 cz && decide (N 7 cz = y))) && sp_l N (N 7 cz) y) = false by simp only [h50, h71, Bool.and_true, Bool.true_and, Bool.and_false, Bool.false_and, Bool.or_true, Bool.true_or, Bool.or_false, Bool.false_or, Bool.and_self, Bool.or_self]]; decide), ho9]) (lv_sub hl [2, 3, 4, 5, 6, 0] rfl)
                    · obtain ⟨cc9, hcc9, hclt, rfl⟩ := cl_cs hC hcz.2 h95
                      refine lv_astore hx hb dd_D_wouldDeadlock_98 hl (by decide) rfl (fun ls hl => ?_)
                      have hl : lv_has ls 7 [(5, .ref (ad (20 + cc9))), (6, .int (bd_b false)), (0, .ref (ad (20 + c9))), (1, .ref (ad (8 + j))), (2, .int (bd_b bar)), (3, .ref (ad (8 + y))), (4, .int (bd_b sh))] := hl
                      refine lv_goto (tgt := 40) hx hb dd_D_wouldDeadlock_100 rfl ?_
                      exact ih2 (some cc9) sh ls (fun z hz => by cases hz; omega) hsh (by rw [← hi, cs_ic, if_neg (by rw [show ((sh || (B 14 cz && decide (N 7 cz = y))) && sp_l N (N 7 cz) y) = false by simp only [h50, h71, Bool.and_true, Bool.true_and, Bool.and_false, Bool.false_and, Bool.or_true, Bool.true_or, Bool.or_false, Bool.false_or, Bool.and_self, Bool.or_self]]; decide), hcc9]) (lv_sub hl [2, 3, 4, 5, 6, 0] rfl)
                  · cases h76
              · refine lv_aload hx hb dd_D_wouldDeadlock_53 (lv_at hl 5 rfl) ?_
                refine cw_getk (k := 20 + cz) (C := rn_B) (T := ft_B) (NF := 11) hx hb hts tw_fs_B hown hK hP (hks.2.2 _ hcz.2) (cw_CB _ ad ca _ _ _ _) rfl 1 (by decide) (hts _ tw_fl_D_141) rfl rfl (cl_h hC hcz.2) dd_D_wouldDeadlock_55 ?_
                refine lv_aload_n hx hb dd_D_wouldDeadlock_58 rfl (lv_at hl 3 rfl) ?_
                refine cw_acmp_ne (a := 8 + N 7 cz) (b := 8 + y) (tgt := 66) hx hb hJ (hks.2.1 _ (cl_hl hC hcz.2)) (hks.2.1 _ hy) dd_D_wouldDeadlock_59 rfl (fun h59 => ?_) (fun h59 => ?_)
                · have h59 : ¬ N 7 cz = y := by omega
                  refine lv_iconst (v := bd_b false) hx hb dd_D_wouldDeadlock_66 (by decide) ?_
                  refine lv_istore hx hb dd_D_wouldDeadlock_67 hl (by decide) rfl (fun ls hl => ?_)
                  have hl : lv_has ls 7 [(6, .int (bd_b false)), (0, .ref (ad (20 + c9))), (1, .ref (ad (8 + j))), (2, .int (bd_b bar)), (3, .ref (ad (8 + y))), (4, .int (bd_b sh)), (5, .ref (ad (20 + cz)))] := hl
                  refine lv_iload hx hb dd_D_wouldDeadlock_69 (lv_at hl 5 rfl) ?_
                  refine bq_zne (tgt := 79) hx hb dd_D_wouldDeadlock_71 rfl (fun h71 => ?_) (fun h71 => ?_)
                  · refine lv_aload hx hb dd_D_wouldDeadlock_79 (lv_at hl 6 rfl) ?_
                    refine cw_getk (k := 20 + cz) (C := rn_B) (T := ft_B) (NF := 11) hx hb hts tw_fs_B hown hK hP (hks.2.2 _ hcz.2) (cw_CB _ ad ca _ _ _ _) rfl 1 (by decide) (hts _ tw_fl_D_141) rfl rfl (cl_h hC hcz.2) dd_D_wouldDeadlock_81 ?_
                    refine lv_aload_n hx hb dd_D_wouldDeadlock_84 rfl (lv_at hl 4 rfl) ?_
                    refine cw_calli (k := 8 + N 7 cz) (C := rn_Q) (T := ft_Q) (NF := 10) (As := [.ref (ad (8 + y))]) (rest := []) (v := bd_b (sp_l N (N 7 cz) y)) ⟨hx, hb, hml, hown, hts⟩ (cc_Q_leadsTo l D ks ad ca M X F G N O B hC hks hMB hJ (N 7 cz) y (cl_hl hC hcz.2) hy) (bg_cwV 1 hts tw_ml_D_55 tw_im_Q_leadsTo tw_se_Q_leadsTo tw_in_Q tw_co_Q_leadsTo rfl rfl th_Q_leadsTo ⟨Nat.le_of_ble_eq_true rfl, Nat.le_of_ble_eq_true rfl⟩) hK hP (hks.2.1 _ (cl_hl hC hcz.2)) (cw_CQ (Nat.lt_of_lt_of_le (cl_hl hC hcz.2) (cl_12 hC)) ad ca _ _ _ _) rfl rfl hl.1 rfl (by decide) dd_D_wouldDeadlock_85 ⟨Nat.zero_le _, Nat.zero_le _⟩ ?_
                    refine bq_zeq (tgt := 93) hx hb dd_D_wouldDeadlock_88 rfl (fun h88 => ?_) (fun h88 => ?_)
                    · refine lv_aload hx hb dd_D_wouldDeadlock_93 (lv_at hl 6 rfl) ?_
                      refine cw_getr (k := 20 + cz) (C := rn_B) (T := ft_B) (NF := 11) hx hb hts tw_fs_B hown hK hP (hks.2.2 _ hcz.2) (cw_CB _ ad ca _ _ _ _) rfl 5 (by decide) (hts _ tw_fl_D_110) rfl rfl dd_D_wouldDeadlock_95 (fun h95 => ?_) (fun k9 h95 => ?_)
                      · have ho9 := cl_cn hC hcz.2 h95
                        refine lv_astoreN hx hb dd_D_wouldDeadlock_98 hl (by decide) rfl (fun ls hl => ?_)
                        have hl : lv_has ls 7 [(5, .null), (6, .int (bd_b false)), (0, .ref (ad (20 + c9))), (1, .ref (ad (8 + j))), (2, .int (bd_b bar)), (3, .ref (ad (8 + y))), (4, .int (bd_b sh))] := hl
                        refine lv_goto (tgt := 40) hx hb dd_D_wouldDeadlock_100 rfl ?_
                        exact ih2 none sh ls (fun z hz => by cases hz) hsh (by rw [← hi, cs_ic, if_neg (by rw [show ((sh || (B 14 cz && decide (N 7 cz = y))) && sp_l N (N 7 cz) y) = false by simp only [h50, decide_eq_false h59, h71, h88, Bool.and_true, Bool.true_and, Bool.and_false, Bool.false_and, Bool.or_true, Bool.true_or, Bool.or_false, Bool.false_or, Bool.and_self, Bool.or_self]]; decide), ho9]) (lv_sub hl [2, 3, 4, 5, 6, 0] rfl)
                      · obtain ⟨cc9, hcc9, hclt, rfl⟩ := cl_cs hC hcz.2 h95
                        refine lv_astore hx hb dd_D_wouldDeadlock_98 hl (by decide) rfl (fun ls hl => ?_)
                        have hl : lv_has ls 7 [(5, .ref (ad (20 + cc9))), (6, .int (bd_b false)), (0, .ref (ad (20 + c9))), (1, .ref (ad (8 + j))), (2, .int (bd_b bar)), (3, .ref (ad (8 + y))), (4, .int (bd_b sh))] := hl
                        refine lv_goto (tgt := 40) hx hb dd_D_wouldDeadlock_100 rfl ?_
                        exact ih2 (some cc9) sh ls (fun z hz => by cases hz; omega) hsh (by rw [← hi, cs_ic, if_neg (by rw [show ((sh || (B 14 cz && decide (N 7 cz = y))) && sp_l N (N 7 cz) y) = false by simp only [h50, decide_eq_false h59, h71, h88, Bool.and_true, Bool.true_and, Bool.and_false, Bool.false_and, Bool.or_true, Bool.true_or, Bool.or_false, Bool.false_or, Bool.and_self, Bool.or_self]]; decide), hcc9]) (lv_sub hl [2, 3, 4, 5, 6, 0] rfl)
                    · refine lv_iconst (v := bd_b true) hx hb dd_D_wouldDeadlock_91 (by decide) ?_
                      exact W.zret (ty := .boolean) hx hb hr (bd_b_nar _) (fun tt htt hWW => ⟨_, rfl, (by rw [← he, sp_any (cl_tr hC) _ hy, show cs_dp M N O B c9 j bar y = true from by rw [cs_dp, decide_eq_true hj3, ← hi, cs_ic, if_pos (show ((sh || (B 14 cz && decide (N 7 cz = y))) && sp_l N (N 7 cz) y) = true by simp only [h50, decide_eq_false h59, h71, h88, Bool.and_true, Bool.true_and, Bool.and_false, Bool.false_and, Bool.or_true, Bool.true_or, Bool.or_false, Bool.false_or, Bool.and_self, Bool.or_self])]; rfl]; rfl), htt⟩) (fun _ h => by cases h) dd_D_wouldDeadlock_92
                  · refine lv_iload hx hb dd_D_wouldDeadlock_74 (lv_at hl 0 rfl) ?_
                    refine bq_zeq (tgt := 93) hx hb dd_D_wouldDeadlock_76 rfl (fun h76 => ?_) (fun h76 => ?_)
                    · refine lv_aload hx hb dd_D_wouldDeadlock_93 (lv_at hl 6 rfl) ?_
                      refine cw_getr (k := 20 + cz) (C := rn_B) (T := ft_B) (NF := 11) hx hb hts tw_fs_B hown hK hP (hks.2.2 _ hcz.2) (cw_CB _ ad ca _ _ _ _) rfl 5 (by decide) (hts _ tw_fl_D_110) rfl rfl dd_D_wouldDeadlock_95 (fun h95 => ?_) (fun k9 h95 => ?_)
                      · have ho9 := cl_cn hC hcz.2 h95
                        refine lv_astoreN hx hb dd_D_wouldDeadlock_98 hl (by decide) rfl (fun ls hl => ?_)
                        have hl : lv_has ls 7 [(5, .null), (6, .int (bd_b false)), (0, .ref (ad (20 + c9))), (1, .ref (ad (8 + j))), (2, .int (bd_b bar)), (3, .ref (ad (8 + y))), (4, .int (bd_b sh))] := hl
                        refine lv_goto (tgt := 40) hx hb dd_D_wouldDeadlock_100 rfl ?_
                        exact ih2 none sh ls (fun z hz => by cases hz) hsh (by rw [← hi, cs_ic, if_neg (by rw [show ((sh || (B 14 cz && decide (N 7 cz = y))) && sp_l N (N 7 cz) y) = false by simp only [h50, decide_eq_false h59, h71, Bool.and_true, Bool.true_and, Bool.and_false, Bool.false_and, Bool.or_true, Bool.true_or, Bool.or_false, Bool.false_or, Bool.and_self, Bool.or_self]]; decide), ho9]) (lv_sub hl [2, 3, 4, 5, 6, 0] rfl)
                      · obtain ⟨cc9, hcc9, hclt, rfl⟩ := cl_cs hC hcz.2 h95
                        refine lv_astore hx hb dd_D_wouldDeadlock_98 hl (by decide) rfl (fun ls hl => ?_)
                        have hl : lv_has ls 7 [(5, .ref (ad (20 + cc9))), (6, .int (bd_b false)), (0, .ref (ad (20 + c9))), (1, .ref (ad (8 + j))), (2, .int (bd_b bar)), (3, .ref (ad (8 + y))), (4, .int (bd_b sh))] := hl
                        refine lv_goto (tgt := 40) hx hb dd_D_wouldDeadlock_100 rfl ?_
                        exact ih2 (some cc9) sh ls (fun z hz => by cases hz; omega) hsh (by rw [← hi, cs_ic, if_neg (by rw [show ((sh || (B 14 cz && decide (N 7 cz = y))) && sp_l N (N 7 cz) y) = false by simp only [h50, decide_eq_false h59, h71, Bool.and_true, Bool.true_and, Bool.and_false, Bool.false_and, Bool.or_true, Bool.true_or, Bool.or_false, Bool.false_or, Bool.and_self, Bool.or_self]]; decide), hcc9]) (lv_sub hl [2, 3, 4, 5, 6, 0] rfl)
                    · cases h76
                · have h59 :  N 7 cz = y := by omega
                  refine lv_iconst (v := bd_b true) hx hb dd_D_wouldDeadlock_62 (by decide) ?_
                  refine lv_goto (tgt := 67) hx hb dd_D_wouldDeadlock_63 rfl ?_
                  refine lv_istore hx hb dd_D_wouldDeadlock_67 hl (by decide) rfl (fun ls hl => ?_)
                  have hl : lv_has ls 7 [(6, .int (bd_b true)), (0, .ref (ad (20 + c9))), (1, .ref (ad (8 + j))), (2, .int (bd_b bar)), (3, .ref (ad (8 + y))), (4, .int (bd_b sh)), (5, .ref (ad (20 + cz)))] := hl
                  refine lv_iload hx hb dd_D_wouldDeadlock_69 (lv_at hl 5 rfl) ?_
                  refine bq_zne (tgt := 79) hx hb dd_D_wouldDeadlock_71 rfl (fun h71 => ?_) (fun h71 => ?_)
                  · refine lv_aload hx hb dd_D_wouldDeadlock_79 (lv_at hl 6 rfl) ?_
                    refine cw_getk (k := 20 + cz) (C := rn_B) (T := ft_B) (NF := 11) hx hb hts tw_fs_B hown hK hP (hks.2.2 _ hcz.2) (cw_CB _ ad ca _ _ _ _) rfl 1 (by decide) (hts _ tw_fl_D_141) rfl rfl (cl_h hC hcz.2) dd_D_wouldDeadlock_81 ?_
                    refine lv_aload_n hx hb dd_D_wouldDeadlock_84 rfl (lv_at hl 4 rfl) ?_
                    refine cw_calli (k := 8 + N 7 cz) (C := rn_Q) (T := ft_Q) (NF := 10) (As := [.ref (ad (8 + y))]) (rest := []) (v := bd_b (sp_l N (N 7 cz) y)) ⟨hx, hb, hml, hown, hts⟩ (cc_Q_leadsTo l D ks ad ca M X F G N O B hC hks hMB hJ (N 7 cz) y (cl_hl hC hcz.2) hy) (bg_cwV 1 hts tw_ml_D_55 tw_im_Q_leadsTo tw_se_Q_leadsTo tw_in_Q tw_co_Q_leadsTo rfl rfl th_Q_leadsTo ⟨Nat.le_of_ble_eq_true rfl, Nat.le_of_ble_eq_true rfl⟩) hK hP (hks.2.1 _ (cl_hl hC hcz.2)) (cw_CQ (Nat.lt_of_lt_of_le (cl_hl hC hcz.2) (cl_12 hC)) ad ca _ _ _ _) rfl rfl hl.1 rfl (by decide) dd_D_wouldDeadlock_85 ⟨Nat.zero_le _, Nat.zero_le _⟩ ?_
                    refine bq_zeq (tgt := 93) hx hb dd_D_wouldDeadlock_88 rfl (fun h88 => ?_) (fun h88 => ?_)
                    · refine lv_aload hx hb dd_D_wouldDeadlock_93 (lv_at hl 6 rfl) ?_
                      refine cw_getr (k := 20 + cz) (C := rn_B) (T := ft_B) (NF := 11) hx hb hts tw_fs_B hown hK hP (hks.2.2 _ hcz.2) (cw_CB _ ad ca _ _ _ _) rfl 5 (by decide) (hts _ tw_fl_D_110) rfl rfl dd_D_wouldDeadlock_95 (fun h95 => ?_) (fun k9 h95 => ?_)
                      · have ho9 := cl_cn hC hcz.2 h95
                        refine lv_astoreN hx hb dd_D_wouldDeadlock_98 hl (by decide) rfl (fun ls hl => ?_)
                        have hl : lv_has ls 7 [(5, .null), (6, .int (bd_b true)), (0, .ref (ad (20 + c9))), (1, .ref (ad (8 + j))), (2, .int (bd_b bar)), (3, .ref (ad (8 + y))), (4, .int (bd_b sh))] := hl
                        refine lv_goto (tgt := 40) hx hb dd_D_wouldDeadlock_100 rfl ?_
                        exact ih2 none sh ls (fun z hz => by cases hz) hsh (by rw [← hi, cs_ic, if_neg (by rw [show ((sh || (B 14 cz && decide (N 7 cz = y))) && sp_l N (N 7 cz) y) = false by simp only [h50, decide_eq_true h59, h71, h88, Bool.and_true, Bool.true_and, Bool.and_false, Bool.false_and, Bool.or_true, Bool.true_or, Bool.or_false, Bool.false_or, Bool.and_self, Bool.or_self]]; decide), ho9]) (lv_sub hl [2, 3, 4, 5, 6, 0] rfl)
                      · obtain ⟨cc9, hcc9, hclt, rfl⟩ := cl_cs hC hcz.2 h95
                        refine lv_astore hx hb dd_D_wouldDeadlock_98 hl (by decide) rfl (fun ls hl => ?_)
                        have hl : lv_has ls 7 [(5, .ref (ad (20 + cc9))), (6, .int (bd_b true)), (0, .ref (ad (20 + c9))), (1, .ref (ad (8 + j))), (2, .int (bd_b bar)), (3, .ref (ad (8 + y))), (4, .int (bd_b sh))] := hl
                        refine lv_goto (tgt := 40) hx hb dd_D_wouldDeadlock_100 rfl ?_
                        exact ih2 (some cc9) sh ls (fun z hz => by cases hz; omega) hsh (by rw [← hi, cs_ic, if_neg (by rw [show ((sh || (B 14 cz && decide (N 7 cz = y))) && sp_l N (N 7 cz) y) = false by simp only [h50, decide_eq_true h59, h71, h88, Bool.and_true, Bool.true_and, Bool.and_false, Bool.false_and, Bool.or_true, Bool.true_or, Bool.or_false, Bool.false_or, Bool.and_self, Bool.or_self]]; decide), hcc9]) (lv_sub hl [2, 3, 4, 5, 6, 0] rfl)
                    · refine lv_iconst (v := bd_b true) hx hb dd_D_wouldDeadlock_91 (by decide) ?_
                      exact W.zret (ty := .boolean) hx hb hr (bd_b_nar _) (fun tt htt hWW => ⟨_, rfl, (by rw [← he, sp_any (cl_tr hC) _ hy, show cs_dp M N O B c9 j bar y = true from by rw [cs_dp, decide_eq_true hj3, ← hi, cs_ic, if_pos (show ((sh || (B 14 cz && decide (N 7 cz = y))) && sp_l N (N 7 cz) y) = true by simp only [h50, decide_eq_true h59, h71, h88, Bool.and_true, Bool.true_and, Bool.and_false, Bool.false_and, Bool.or_true, Bool.true_or, Bool.or_false, Bool.false_or, Bool.and_self, Bool.or_self])]; rfl]; rfl), htt⟩) (fun _ h => by cases h) dd_D_wouldDeadlock_92
                  · refine lv_iload hx hb dd_D_wouldDeadlock_74 (lv_at hl 0 rfl) ?_
                    refine bq_zeq (tgt := 93) hx hb dd_D_wouldDeadlock_76 rfl (fun h76 => ?_) (fun h76 => ?_)
                    · cases h76
                    · refine lv_aload hx hb dd_D_wouldDeadlock_79 (lv_at hl 6 rfl) ?_
                      refine cw_getk (k := 20 + cz) (C := rn_B) (T := ft_B) (NF := 11) hx hb hts tw_fs_B hown hK hP (hks.2.2 _ hcz.2) (cw_CB _ ad ca _ _ _ _) rfl 1 (by decide) (hts _ tw_fl_D_141) rfl rfl (cl_h hC hcz.2) dd_D_wouldDeadlock_81 ?_
                      refine lv_aload_n hx hb dd_D_wouldDeadlock_84 rfl (lv_at hl 4 rfl) ?_
                      refine cw_calli (k := 8 + N 7 cz) (C := rn_Q) (T := ft_Q) (NF := 10) (As := [.ref (ad (8 + y))]) (rest := []) (v := bd_b (sp_l N (N 7 cz) y)) ⟨hx, hb, hml, hown, hts⟩ (cc_Q_leadsTo l D ks ad ca M X F G N O B hC hks hMB hJ (N 7 cz) y (cl_hl hC hcz.2) hy) (bg_cwV 1 hts tw_ml_D_55 tw_im_Q_leadsTo tw_se_Q_leadsTo tw_in_Q tw_co_Q_leadsTo rfl rfl th_Q_leadsTo ⟨Nat.le_of_ble_eq_true rfl, Nat.le_of_ble_eq_true rfl⟩) hK hP (hks.2.1 _ (cl_hl hC hcz.2)) (cw_CQ (Nat.lt_of_lt_of_le (cl_hl hC hcz.2) (cl_12 hC)) ad ca _ _ _ _) rfl rfl hl.1 rfl (by decide) dd_D_wouldDeadlock_85 ⟨Nat.zero_le _, Nat.zero_le _⟩ ?_
                      refine bq_zeq (tgt := 93) hx hb dd_D_wouldDeadlock_88 rfl (fun h88 => ?_) (fun h88 => ?_)
                      · refine lv_aload hx hb dd_D_wouldDeadlock_93 (lv_at hl 6 rfl) ?_
                        refine cw_getr (k := 20 + cz) (C := rn_B) (T := ft_B) (NF := 11) hx hb hts tw_fs_B hown hK hP (hks.2.2 _ hcz.2) (cw_CB _ ad ca _ _ _ _) rfl 5 (by decide) (hts _ tw_fl_D_110) rfl rfl dd_D_wouldDeadlock_95 (fun h95 => ?_) (fun k9 h95 => ?_)
                        · have ho9 := cl_cn hC hcz.2 h95
                          refine lv_astoreN hx hb dd_D_wouldDeadlock_98 hl (by decide) rfl (fun ls hl => ?_)
                          have hl : lv_has ls 7 [(5, .null), (6, .int (bd_b true)), (0, .ref (ad (20 + c9))), (1, .ref (ad (8 + j))), (2, .int (bd_b bar)), (3, .ref (ad (8 + y))), (4, .int (bd_b sh))] := hl
                          refine lv_goto (tgt := 40) hx hb dd_D_wouldDeadlock_100 rfl ?_
                          exact ih2 none sh ls (fun z hz => by cases hz) hsh (by rw [← hi, cs_ic, if_neg (by rw [show ((sh || (B 14 cz && decide (N 7 cz = y))) && sp_l N (N 7 cz) y) = false by simp only [h50, decide_eq_true h59, h71, h88, Bool.and_true, Bool.true_and, Bool.and_false, Bool.false_and, Bool.or_true, Bool.true_or, Bool.or_false, Bool.false_or, Bool.and_self, Bool.or_self]]; decide), ho9]) (lv_sub hl [2, 3, 4, 5, 6, 0] rfl)
                        · obtain ⟨cc9, hcc9, hclt, rfl⟩ := cl_cs hC hcz.2 h95
                          refine lv_astore hx hb dd_D_wouldDeadlock_98 hl (by decide) rfl (fun ls hl => ?_)
                          have hl : lv_has ls 7 [(5, .ref (ad (20 + cc9))), (6, .int (bd_b true)), (0, .ref (ad (20 + c9))), (1, .ref (ad (8 + j))), (2, .int (bd_b bar)), (3, .ref (ad (8 + y))), (4, .int (bd_b sh))] := hl
                          refine lv_goto (tgt := 40) hx hb dd_D_wouldDeadlock_100 rfl ?_
                          exact ih2 (some cc9) sh ls (fun z hz => by cases hz; omega) hsh (by rw [← hi, cs_ic, if_neg (by rw [show ((sh || (B 14 cz && decide (N 7 cz = y))) && sp_l N (N 7 cz) y) = false by simp only [h50, decide_eq_true h59, h71, h88, Bool.and_true, Bool.true_and, Bool.and_false, Bool.false_and, Bool.or_true, Bool.true_or, Bool.or_false, Bool.false_or, Bool.and_self, Bool.or_self]]; decide), hcc9]) (lv_sub hl [2, 3, 4, 5, 6, 0] rfl)
                      · refine lv_iconst (v := bd_b true) hx hb dd_D_wouldDeadlock_91 (by decide) ?_
                        exact W.zret (ty := .boolean) hx hb hr (bd_b_nar _) (fun tt htt hWW => ⟨_, rfl, (by rw [← he, sp_any (cl_tr hC) _ hy, show cs_dp M N O B c9 j bar y = true from by rw [cs_dp, decide_eq_true hj3, ← hi, cs_ic, if_pos (show ((sh || (B 14 cz && decide (N 7 cz = y))) && sp_l N (N 7 cz) y) = true by simp only [h50, decide_eq_true h59, h71, h88, Bool.and_true, Bool.true_and, Bool.and_false, Bool.false_and, Bool.or_true, Bool.true_or, Bool.or_false, Bool.false_or, Bool.and_self, Bool.or_self])]; rfl]; rfl), htt⟩) (fun _ h => by cases h) dd_D_wouldDeadlock_92
        refine lv_aload_n hx hb dd_D_wouldDeadlock_13 rfl (lv_at hl 3 rfl) ?_
        refine cw_get1 (k := 8 + y) (C := rn_Q) (T := ft_Q) (NF := 10) (v := .int (nI (M (8 + y) 1))) hx hb hts tw_fs_Q hown hK hP (hks.2.1 _ hy) (cw_CQ (Nat.lt_of_lt_of_le hy (cl_12 hC)) ad ca _ _ _ _) rfl 1 (by decide) (hts _ tw_fl_D_198) rfl rfl dd_D_wouldDeadlock_14 ?_
        refine lv_iconst (v := nI 1) hx hb dd_D_wouldDeadlock_17 (by decide) ?_
        refine bq_eq (tgt := 30) hx hb (hMB _ _) (by decide) dd_D_wouldDeadlock_18 rfl (fun h18 => ?_) (fun h18 => ?_)
        · refine lv_iconst (v := bd_b true) hx hb dd_D_wouldDeadlock_30 (by decide) ?_
          refine lv_goto (tgt := 35) hx hb dd_D_wouldDeadlock_31 rfl ?_
          refine lv_istore hx hb dd_D_wouldDeadlock_35 hl (by decide) rfl (fun ls hl => ?_)
          have hl : lv_has ls 7 [(4, .int (bd_b true)), (0, .ref (ad (20 + c9))), (1, .ref (ad (8 + j))), (2, .int (bd_b bar)), (3, .ref (ad (8 + y)))] := hl
          refine lv_aload_n hx hb dd_D_wouldDeadlock_37 rfl (lv_at hl 1 rfl) ?_
          refine lv_astore hx hb dd_D_wouldDeadlock_38 hl (by decide) rfl (fun ls hl => ?_)
          have hl : lv_has ls 7 [(5, .ref (ad (20 + c9))), (4, .int (bd_b true)), (0, .ref (ad (20 + c9))), (1, .ref (ad (8 + j))), (2, .int (bd_b bar)), (3, .ref (ad (8 + y)))] := hl
          exact lq 160 (some c9) true ls (fun z hz => by cases hz; omega) (by rw [cs_sh]; rw [decide_eq_true h18]; rfl) (by rw [show true = cs_sh M j bar y from by rw [cs_sh]; rw [decide_eq_true h18]; rfl]) (lv_sub hl [2, 3, 4, 5, 1, 0] rfl)
        · refine lv_iload_n hx hb dd_D_wouldDeadlock_21 rfl (lv_at hl 2 rfl) ?_
          refine bq_zeq (tgt := 34) hx hb dd_D_wouldDeadlock_22 rfl (fun h22 => ?_) (fun h22 => ?_)
          · refine lv_iconst (v := bd_b false) hx hb dd_D_wouldDeadlock_34 (by decide) ?_
            refine lv_istore hx hb dd_D_wouldDeadlock_35 hl (by decide) rfl (fun ls hl => ?_)
            have hl : lv_has ls 7 [(4, .int (bd_b false)), (0, .ref (ad (20 + c9))), (1, .ref (ad (8 + j))), (2, .int (bd_b bar)), (3, .ref (ad (8 + y)))] := hl
            refine lv_aload_n hx hb dd_D_wouldDeadlock_37 rfl (lv_at hl 1 rfl) ?_
            refine lv_astore hx hb dd_D_wouldDeadlock_38 hl (by decide) rfl (fun ls hl => ?_)
            have hl : lv_has ls 7 [(5, .ref (ad (20 + c9))), (4, .int (bd_b false)), (0, .ref (ad (20 + c9))), (1, .ref (ad (8 + j))), (2, .int (bd_b bar)), (3, .ref (ad (8 + y)))] := hl
            exact lq 160 (some c9) false ls (fun z hz => by cases hz; omega) (by rw [cs_sh]; rw [decide_eq_false h18, h22]; rfl) (by rw [show false = cs_sh M j bar y from by rw [cs_sh]; rw [decide_eq_false h18, h22]; rfl]) (lv_sub hl [2, 3, 4, 5, 1, 0] rfl)
          · refine lv_aload_n hx hb dd_D_wouldDeadlock_25 rfl (lv_at hl 3 rfl) ?_
            refine lv_aload_n hx hb dd_D_wouldDeadlock_26 rfl (lv_at hl 1 rfl) ?_
            refine cw_acmp_ne (a := 8 + y) (b := 8 + j) (tgt := 34) hx hb hJ (hks.2.1 _ hy) (hks.2.1 _ hj) dd_D_wouldDeadlock_27 rfl (fun h27 => ?_) (fun h27 => ?_)
            · have h27 : ¬ y = j := by omega
              refine lv_iconst (v := bd_b false) hx hb dd_D_wouldDeadlock_34 (by decide) ?_
              refine lv_istore hx hb dd_D_wouldDeadlock_35 hl (by decide) rfl (fun ls hl => ?_)
              have hl : lv_has ls 7 [(4, .int (bd_b false)), (0, .ref (ad (20 + c9))), (1, .ref (ad (8 + j))), (2, .int (bd_b bar)), (3, .ref (ad (8 + y)))] := hl
              refine lv_aload_n hx hb dd_D_wouldDeadlock_37 rfl (lv_at hl 1 rfl) ?_
              refine lv_astore hx hb dd_D_wouldDeadlock_38 hl (by decide) rfl (fun ls hl => ?_)
              have hl : lv_has ls 7 [(5, .ref (ad (20 + c9))), (4, .int (bd_b false)), (0, .ref (ad (20 + c9))), (1, .ref (ad (8 + j))), (2, .int (bd_b bar)), (3, .ref (ad (8 + y)))] := hl
              exact lq 160 (some c9) false ls (fun z hz => by cases hz; omega) (by rw [cs_sh]; rw [decide_eq_false h18, h22, decide_eq_false h27]; rfl) (by rw [show false = cs_sh M j bar y from by rw [cs_sh]; rw [decide_eq_false h18, h22, decide_eq_false h27]; rfl]) (lv_sub hl [2, 3, 4, 5, 1, 0] rfl)
            · have h27 : y = j := by omega
              refine lv_iconst (v := bd_b true) hx hb dd_D_wouldDeadlock_30 (by decide) ?_
              refine lv_goto (tgt := 35) hx hb dd_D_wouldDeadlock_31 rfl ?_
              refine lv_istore hx hb dd_D_wouldDeadlock_35 hl (by decide) rfl (fun ls hl => ?_)
              have hl : lv_has ls 7 [(4, .int (bd_b true)), (0, .ref (ad (20 + c9))), (1, .ref (ad (8 + j))), (2, .int (bd_b bar)), (3, .ref (ad (8 + y)))] := hl
              refine lv_aload_n hx hb dd_D_wouldDeadlock_37 rfl (lv_at hl 1 rfl) ?_
              refine lv_astore hx hb dd_D_wouldDeadlock_38 hl (by decide) rfl (fun ls hl => ?_)
              have hl : lv_has ls 7 [(5, .ref (ad (20 + c9))), (4, .int (bd_b true)), (0, .ref (ad (20 + c9))), (1, .ref (ad (8 + j))), (2, .int (bd_b bar)), (3, .ref (ad (8 + y)))] := hl
              exact lq 160 (some c9) true ls (fun z hz => by cases hz; omega) (by rw [cs_sh]; rw [decide_eq_false h18, h22, decide_eq_true h27]; rfl) (by rw [show true = cs_sh M j bar y from by rw [cs_sh]; rw [decide_eq_false h18, h22, decide_eq_true h27]; rfl]) (lv_sub hl [2, 3, 4, 5, 1, 0] rfl)
  refine lv_aload_n hx hb dd_D_wouldDeadlock_0 rfl (lv_at hl 1 rfl) ?_
  refine lv_astore_n hx hb dd_D_wouldDeadlock_1 rfl hl (by decide) rfl (fun ls hl => ?_)
  have hl : lv_has ls 7 [(3, .ref (ad (8 + j))), (0, .ref (ad (20 + c9))), (1, .ref (ad (8 + j))), (2, .int (bd_b bar))] := hl
  exact lp j hj ls rfl (lv_sub hl [1, 2, 3, 0] rfl)

set_option maxHeartbeats 4000000 in
set_option maxRecDepth 100000 in
theorem cc_D_deadlineIn (l : Launch) (D : va_G) (ks : List Nat) (ad : Nat → Nat) (ca : Nat → ClassId) (M : sp_N) (X : sp_B) (F : sp_O) (G : sp_Z) (N : sp_N) (O : sp_O) (B : sp_B) (hC : cl_S M X F N O B) (hks : cl_k ks N) (hMB : cl_B M) (d : Int64) : Met l my_D_deadlineIn (Cond.code my_D_deadlineIn cd_D_deadlineIn 3 (some .long) :: bg_tbl) ({ frames := 0, cells := 0, slots := 0, locals := 0 }) (va_Pc [.ref (ad 0), .long d] (cw_U D ks ad ca M X F G)) (vp_Sl (fun r => r = cs_dl G d)) 0 0 (fun _ => False) := by
  refine Met.ofW (cc := cd_D_deadlineIn) (maxL := 3) (ret := (some .long)) (by decide) rfl ?_
  intro p e s m args below meth c s₁ BB hml hv
  obtain ⟨rfl, hP, hK⟩ := hv
  have hx := BB.exec
  have hb := BB.bytes
  have hr := BB.returns
  have hts : ∀ w ∈ bg_tbl, w.before ([.ref (ad 0), .long d] : List Value).toArray s = true := fun w h => atoms_spec (ws := (Cond.code my_D_deadlineIn cd_D_deadlineIn 3 (some .long) :: bg_tbl)) BB.pre w (List.mem_cons_of_mem _ h)
  have hown : s.vm.findClass rn_D = some m.cls := findClass_of_methodNamed BB.named
  have hlocks := BB.notSynchronized
  have h12 := cl_12 hC
  have h160 := cl_160 hC
  have h3q := cl_3 hC
  have hM4 := cl_M4 hC
  have hM5 := cl_M5 hC
  have hl := lv_entry ([.ref (ad 0), .long d]) (n := 3) (Nat.le_of_ble_eq_true rfl)
  rw [lg_entry_eq]
  generalize (lg_sl ([.ref (ad 0), .long d]) ++ List.replicate (3 - (lg_sl ([.ref (ad 0), .long d])).length) Slot.unset).toArray = ls at hl ⊢
  have hl : lv_has ls 3 [(0, .ref (ad 0)), (1, .long d)] := hl
  refine lv_lload_n hx hb dd_D_deadlineIn_0 rfl (lv_at hl 1 rfl) ?_
  refine lv_ldc2 (v := 9223372036854775807) hx hb hown (hts _ tw_k2_D_196) dd_D_deadlineIn_1 ?_
  refine lv_aload_n hx hb dd_D_deadlineIn_4 rfl (lv_at hl 0 rfl) ?_
  refine cw_get1 (k := 0) (C := rn_D) (T := ft_D) (NF := 9) (v := .long (G 0 8)) hx hb hts tw_fs_D hown hK hP (hks.1 0 (by decide)) (cw_C0 ad ca _ _ _ _) rfl 8 (by decide) (hts _ tw_fl_D_159) rfl rfl dd_D_deadlineIn_5 ?_
  refine lv_lsub hx hb dd_D_deadlineIn_8 ?_
  refine W.lcmp hx hb dd_D_deadlineIn_9 ?_
  refine bq_llt (tgt := 19) hx hb dd_D_deadlineIn_10 rfl (fun h10 => ?_) (fun h10 => ?_)
  · refine lv_aload_n hx hb dd_D_deadlineIn_19 rfl (lv_at hl 0 rfl) ?_
    refine cw_get1 (k := 0) (C := rn_D) (T := ft_D) (NF := 9) (v := .long (G 0 8)) hx hb hts tw_fs_D hown hK hP (hks.1 0 (by decide)) (cw_C0 ad ca _ _ _ _) rfl 8 (by decide) (hts _ tw_fl_D_159) rfl rfl dd_D_deadlineIn_20 ?_
    refine lv_lload_n hx hb dd_D_deadlineIn_23 rfl (lv_at hl 1 rfl) ?_
    refine lv_ladd hx hb dd_D_deadlineIn_24 ?_
    exact W.lret hx hb hr (fun tt htt hWW => ⟨_, rfl, (by rw [cs_dl, if_pos h10]), htt⟩) (fun _ h => by cases h) dd_D_deadlineIn_25
  · refine lv_ldc2 (v := 9223372036854775807) hx hb hown (hts _ tw_k2_D_196) dd_D_deadlineIn_13 ?_
    refine lv_goto (tgt := 25) hx hb dd_D_deadlineIn_16 rfl ?_
    exact W.lret hx hb hr (fun tt htt hWW => ⟨_, rfl, (by rw [cs_dl, if_neg (Int64.not_lt.mpr h10)]), htt⟩) (fun _ h => by cases h) dd_D_deadlineIn_25

set_option maxHeartbeats 4000000 in
set_option maxRecDepth 100000 in
theorem cc_D_now (l : Launch) (D : va_G) (ks : List Nat) (ad : Nat → Nat) (ca : Nat → ClassId) (M : sp_N) (X : sp_B) (F : sp_O) (G : sp_Z) (N : sp_N) (O : sp_O) (B : sp_B) (hC : cl_S M X F N O B) (hks : cl_k ks N) (hMB : cl_B M)  : Met l my_D_now (Cond.code my_D_now cd_D_now 1 (some .long) :: bg_tbl) ({ frames := 0, cells := 0, slots := 0, locals := 0 }) (va_Pc [.ref (ad 0)] (cw_U D ks ad ca M X F G)) (vp_Sl (fun r => r = G 0 8)) 0 0 (fun _ => False) := by
  refine Met.ofW (cc := cd_D_now) (maxL := 1) (ret := (some .long)) (by decide) rfl ?_
  intro p e s m args below meth c s₁ BB hml hv
  obtain ⟨rfl, hP, hK⟩ := hv
  have hx := BB.exec
  have hb := BB.bytes
  have hr := BB.returns
  have hts : ∀ w ∈ bg_tbl, w.before ([.ref (ad 0)] : List Value).toArray s = true := fun w h => atoms_spec (ws := (Cond.code my_D_now cd_D_now 1 (some .long) :: bg_tbl)) BB.pre w (List.mem_cons_of_mem _ h)
  have hown : s.vm.findClass rn_D = some m.cls := findClass_of_methodNamed BB.named
  have hlocks := BB.notSynchronized
  have h12 := cl_12 hC
  have h160 := cl_160 hC
  have h3q := cl_3 hC
  have hM4 := cl_M4 hC
  have hM5 := cl_M5 hC
  have hl := lv_entry ([.ref (ad 0)]) (n := 1) (Nat.le_of_ble_eq_true rfl)
  rw [lg_entry_eq]
  generalize (lg_sl ([.ref (ad 0)]) ++ List.replicate (1 - (lg_sl ([.ref (ad 0)])).length) Slot.unset).toArray = ls at hl ⊢
  have hl : lv_has ls 1 [(0, .ref (ad 0))] := hl
  refine lv_aload_n hx hb dd_D_now_0 rfl (lv_at hl 0 rfl) ?_
  refine cw_get1 (k := 0) (C := rn_D) (T := ft_D) (NF := 9) (v := .long (G 0 8)) hx hb hts tw_fs_D hown hK hP (hks.1 0 (by decide)) (cw_C0 ad ca _ _ _ _) rfl 8 (by decide) (hts _ tw_fl_D_159) rfl rfl dd_D_now_1 ?_
  exact W.lret hx hb hr (fun tt htt hWW => ⟨_, rfl, rfl, htt⟩) (fun _ h => by cases h) dd_D_now_4
end
section
/-! Part 26: what the class's writers do to the maps. -/
theorem sp_u_k {α : Type} (N : Nat → Nat → α) (f j : Nat) (v : α) : sp_u N f j v f = va_up (N f) j v := by
  unfold sp_u
  rw [va_up_self]
section CSM
variable {M : sp_N} {X : sp_B} {F : sp_O} {N : sp_N} {O : sp_O} {B : sp_B}
theorem cl_S_M (h : cl_S M X F N O B) {k f v : Nat} (hf : f ≠ 0) (hk : k ≠ 0 ∨ (f ≠ 4 ∧ f ≠ 5)) : cl_S (sp_u M k f v) X F N O B := by
  obtain ⟨⟨a1, a2, a3, a4, a5⟩, b, c, d⟩ := h
  refine ⟨⟨a1, a2, ?_, ?_, a5⟩, fun j hj => ?_, fun t ht => ?_, d⟩
  · rw [sp_u_app, if_neg (by omega)]; exact a3
  · rw [sp_u_app, if_neg (by omega)]; exact a4
  · rw [sp_u_app, if_neg (by omega)]; exact b j hj
  · rw [sp_u_app, if_neg (by omega)]; exact c t ht
theorem cl_S_X (h : cl_S M X F N O B) {k f : Nat} {v : Bool} (hf : f ≠ 2) : cl_S M (sp_u X k f v) F N O B := by
  obtain ⟨a, b, c, d⟩ := h
  refine ⟨a, b, fun t ht => ?_, d⟩
  rw [sp_u_app, if_neg (by omega)]
  exact c t ht
/-- the first and the last of a line, the next in a line, what a block is held for -/
theorem cl_S_F (h : cl_S M X F N O B) {k f : Nat} {v : Option Nat} (hk : (∃ j, j < N 1 0 ∧ k = 8 + j ∧ (f = 4 ∨ f = 5)) ∨ (∃ t, t < N 6 0 ∧ k = 20 + t ∧ f = 10)) (hv : ∀ z, v = some z → ∃ t, t < N 6 0 ∧ z = 20 + t) : cl_S M X (sp_u F k f v) N O B := by
  obtain ⟨⟨a1, a2, a3, a4, a5, a6, a7⟩, b, c, d1, d2, d3, d4, d5, d6, d7⟩ := h
  have key : ∀ k' f', ¬ (k' = k ∧ f' = f) → sp_u F k f v k' f' = F k' f' := fun k' f' hn => by rw [sp_u_app, if_neg hn]
  have h12 := a1.2.1
  refine ⟨⟨a1, a2, a3, a4, ?_, ?_, ?_⟩, fun j hj => ?_, fun t ht => ?_, d1, d2, fun g hg => ?_, fun j z hj hz => ?_, fun j z hj hz => ?_, fun t z ht hz => ?_, fun t z ht hz => ?_⟩
  · rw [key _ _ (by omega)]; exact a5
  · rw [key _ _ (by omega)]; exact a6
  · rw [key _ _ (by omega)]; exact a7
  · rw [key _ _ (by omega), key _ _ (by omega)]; exact b j hj
  · rw [key _ _ (by omega), key _ _ (by omega), key _ _ (by omega), key _ _ (by omega)]; exact c t ht
  · rw [key _ _ (by omega)]; exact d3 g hg
  · rw [sp_u_app] at hz
    split at hz
    · exact hv z hz
    · exact d4 j z hj hz
  · rw [sp_u_app] at hz
    split at hz
    · exact hv z hz
    · exact d5 j z hj hz
  · rw [sp_u_app] at hz
    split at hz
    · exact hv z hz
    · exact d6 t z ht hz
  · rw [key _ _ (by omega)] at hz; exact d7 t z ht hz
end CSM
/-- append -/
def cs_aF (F : sp_O) (j t : Nat) : sp_O := match F (8 + j) 5 with
  | none => sp_u (sp_u F (8 + j) 4 (some (20 + t))) (8 + j) 5 (some (20 + t))
  | some k => sp_u (sp_u F k 10 (some (20 + t))) (8 + j) 5 (some (20 + t))
theorem cl_S_a {M : sp_N} {X : sp_B} {F : sp_O} {N : sp_N} {O : sp_O} {B : sp_B} (h : cl_S M X F N O B) {j t : Nat} (hj : j < N 1 0) (ht : t < N 6 0) : cl_S M X (cs_aF F j t) N O B := by
  unfold cs_aF
  cases hl : F (8 + j) 5 with
  | none => exact cl_S_F (cl_S_F h (Or.inl ⟨j, hj, rfl, Or.inl rfl⟩) (fun z hz => by cases hz; exact ⟨t, ht, rfl⟩)) (Or.inl ⟨j, hj, rfl, Or.inr rfl⟩) (fun z hz => by cases hz; exact ⟨t, ht, rfl⟩)
  | some k =>
    obtain ⟨u, hu, rfl⟩ := cl_ls h hj hl
    exact cl_S_F (cl_S_F h (Or.inr ⟨u, hu, rfl, rfl⟩) (fun z hz => by cases hz; exact ⟨t, ht, rfl⟩)) (Or.inl ⟨j, hj, rfl, Or.inr rfl⟩) (fun z hz => by cases hz; exact ⟨t, ht, rfl⟩)
/-- dropFirst -/
def cs_xF (F : sp_O) (j : Nat) : sp_O := match F (8 + j) 4 with
  | none => F
  | some k => match F k 10 with
    | none => sp_u (sp_u F (8 + j) 4 none) (8 + j) 5 none
    | some k2 => sp_u F (8 + j) 4 (some k2)
def cs_xM (M : sp_N) (F : sp_O) (j : Nat) : sp_N := match F (8 + j) 4 with
  | none => M
  | some _ => sp_u M (8 + j) 6 (M (8 + j) 6 - 1)
/-- line -/
def cs_lM (M : sp_N) (N : sp_N) (t : Nat) : sp_N := sp_u (sp_u (sp_u (sp_u M (20 + t) 3 2) (20 + t) 9 (M 0 7)) 0 7 (M 0 7 + 1)) (8 + N 7 t) 6 (M (8 + N 7 t) 6 + 1)
theorem cl_S_l {M : sp_N} {X : sp_B} {F : sp_O} {N : sp_N} {O : sp_O} {B : sp_B} (h : cl_S M X F N O B) {t : Nat} (ht : t < N 6 0) : cl_S (cs_lM M N t) X (cs_aF F (N 7 t) t) N O B := by
  unfold cs_lM
  exact cl_S_a (cl_S_M (cl_S_M (cl_S_M (cl_S_M h (by decide) (Or.inl (by omega))) (by decide) (Or.inl (by omega))) (by decide) (Or.inr ⟨by decide, by decide⟩)) (by decide) (Or.inl (by omega))) (cl_hl h ht) ht
/-- start: the counts of those on the way up -/
def cs_up (N : sp_N) (h : Nat) (K : sp_N) : sp_N := fun k f => if 8 ≤ k ∧ k < 8 + N 1 0 ∧ sp_l N h (k - 8) = true then (if f = 7 then K k 7 + 1 else if f = 8 then (if K k 8 ≤ K k 7 + 1 then K k 7 + 1 else K k 8) else K k f) else K k f
def cs_u1 (K : sp_N) (y : Nat) : sp_N := sp_u (sp_u K (8 + y) 7 (K (8 + y) 7 + 1)) (8 + y) 8 (if K (8 + y) 8 ≤ K (8 + y) 7 + 1 then K (8 + y) 7 + 1 else K (8 + y) 8)
theorem cs_up_eq {N : sp_N} (hT : sp_Tr N) (K : sp_N) {y : Nat} (hy : y < N 1 0) : cs_up N y K = if y < 3 then cs_u1 K y else cs_up N (N 2 y) (cs_u1 K y) := by
  funext k f
  by_cases h3 : y < 3
  · rw [if_pos h3]
    unfold cs_up cs_u1
    by_cases hk : 8 ≤ k ∧ k < 8 + N 1 0 ∧ sp_l N y (k - 8) = true
    · rw [if_pos hk]
      have h1 := hk.2.2
      rw [sp_l_eq hT hy] at h1
      have hyk : y = k - 8 := by
        by_cases q : y = k - 8
        · exact q
        · rw [if_neg q, if_pos h3] at h1; cases h1
      have hke : k = 8 + y := by omega
      subst hke
      rw [sp_u_app, sp_u_app]
      by_cases f7 : f = 7
      · subst f7; simp
      · by_cases f8 : f = 8
        · subst f8; simp
        · simp [f7, f8]
    · rw [if_neg hk, sp_u_app, if_neg, sp_u_app, if_neg]
      · rintro ⟨rfl, -⟩
        exact hk ⟨by omega, by omega, by rw [show 8 + y - 8 = y by omega]; exact sp_l_self N y⟩
      · rintro ⟨rfl, -⟩
        exact hk ⟨by omega, by omega, by rw [show 8 + y - 8 = y by omega]; exact sp_l_self N y⟩
  · rw [if_neg h3]
    have hno := sp_l_no hT (by omega) hy
    unfold cs_up cs_u1
    by_cases hky : k = 8 + y
    · subst hky
      rw [show 8 + y - 8 = y by omega, hno, sp_l_self]
      rw [if_pos ⟨by omega, by omega, rfl⟩, if_neg (show ¬ (8 ≤ 8 + y ∧ 8 + y < 8 + N 1 0 ∧ false = true) from fun q => by cases q.2.2)]
      by_cases f7 : f = 7
      · subst f7; simp [sp_u_app]
      · by_cases f8 : f = 8
        · subst f8; simp [sp_u_app]
        · simp [f7, f8, sp_u_app]
    · have e : ∀ f', sp_u (sp_u K (8 + y) 7 (K (8 + y) 7 + 1)) (8 + y) 8 (if K (8 + y) 8 ≤ K (8 + y) 7 + 1 then K (8 + y) 7 + 1 else K (8 + y) 8) k f' = K k f' := fun f' => by rw [sp_u_app, if_neg (fun q => hky q.1), sp_u_app, if_neg (fun q => hky q.1)]
      rw [e, e, e]
      by_cases hk : 8 ≤ k ∧ k < 8 + N 1 0
      · have e2 : sp_l N y (k - 8) = sp_l N (N 2 y) (k - 8) := by rw [sp_l_eq hT hy, if_neg (by omega), if_neg h3]
        rw [e2]
      · rw [if_neg (fun q => hk ⟨q.1, q.2.1⟩), if_neg (fun q => hk ⟨q.1, q.2.1⟩)]
/-- withdraw -/
def cs_dn (N : sp_N) (h : Nat) (K : sp_N) : sp_N := fun k f => if 8 ≤ k ∧ k < 8 + N 1 0 ∧ sp_l N h (k - 8) = true then (if f = 7 then K k 7 - 1 else K k f) else K k f
def cs_d1 (K : sp_N) (y : Nat) : sp_N := sp_u K (8 + y) 7 (K (8 + y) 7 - 1)
theorem cs_dn_eq {N : sp_N} (hT : sp_Tr N) (K : sp_N) {y : Nat} (hy : y < N 1 0) : cs_dn N y K = if y < 3 then cs_d1 K y else cs_dn N (N 2 y) (cs_d1 K y) := by
  funext k f
  by_cases h3 : y < 3
  · rw [if_pos h3]
    unfold cs_dn cs_d1
    by_cases hk : 8 ≤ k ∧ k < 8 + N 1 0 ∧ sp_l N y (k - 8) = true
    · rw [if_pos hk]
      have h1 := hk.2.2
      rw [sp_l_eq hT hy] at h1
      have hyk : y = k - 8 := by
        by_cases q : y = k - 8
        · exact q
        · rw [if_neg q, if_pos h3] at h1; cases h1
      have hke : k = 8 + y := by omega
      subst hke
      rw [sp_u_app]
      by_cases f7 : f = 7
      · subst f7; simp
      · simp [f7]
    · rw [if_neg hk, sp_u_app, if_neg]
      rintro ⟨rfl, -⟩
      exact hk ⟨by omega, by omega, by rw [show 8 + y - 8 = y by omega]; exact sp_l_self N y⟩
  · rw [if_neg h3]
    have hno := sp_l_no hT (by omega) hy
    unfold cs_dn cs_d1
    by_cases hky : k = 8 + y
    · subst hky
      rw [show 8 + y - 8 = y by omega, hno, sp_l_self]
      rw [if_pos ⟨by omega, by omega, rfl⟩, if_neg (show ¬ (8 ≤ 8 + y ∧ 8 + y < 8 + N 1 0 ∧ false = true) from fun q => by cases q.2.2)]
      by_cases f7 : f = 7
      · subst f7; simp [sp_u_app]
      · simp [f7, sp_u_app]
    · have e : ∀ f', sp_u K (8 + y) 7 (K (8 + y) 7 - 1) k f' = K k f' := fun f' => by rw [sp_u_app, if_neg (fun q => hky q.1)]
      rw [e, e]
      by_cases hk : 8 ≤ k ∧ k < 8 + N 1 0
      · have e2 : sp_l N y (k - 8) = sp_l N (N 2 y) (k - 8) := by rw [sp_l_eq hT hy, if_neg (by omega), if_neg h3]
        rw [e2]
      · rw [if_neg (fun q => hk ⟨q.1, q.2.1⟩), if_neg (fun q => hk ⟨q.1, q.2.1⟩)]
/-- start, withdraw as a whole -/
def cs_sM (M : sp_N) (F : sp_O) (N : sp_N) (t : Nat) : sp_N := cs_up N (N 7 t) (match F (20 + t) 5 with
  | none => sp_u (sp_u M (20 + t) 3 3) 0 6 (M 0 6 + 1)
  | some _ => sp_u M (20 + t) 3 3)
def cs_sX (X : sp_B) (N : sp_N) (t : Nat) : sp_B := if X (20 + t) 2 = true then sp_u X (8 + N 7 t) 9 true else X
def cs_wM (M : sp_N) (F : sp_O) (N : sp_N) (t : Nat) : sp_N := cs_dn N (N 7 t) (match F (20 + t) 5 with
  | none => sp_u M 0 6 (M 0 6 - 1)
  | some _ => M)
def cs_wX (X : sp_B) (N : sp_N) (t : Nat) : sp_B := if X (20 + t) 2 = true then sp_u X (8 + N 7 t) 9 false else X
/-- releaseIfEmpty -/
def cs_r (M : sp_N) (F : sp_O) (N : sp_N) (g : Nat) : Nat → sp_N × sp_O
  | 0 => (M, F)
  | i + 1 => if (cs_r M F N g i).1 (20 + i) 3 = 0 ∧ (cs_r M F N g i).2 (20 + i) 7 = some (4 + g) then (cs_lM (cs_r M F N g i).1 N i, cs_aF (cs_r M F N g i).2 (N 7 i) i) else cs_r M F N g i
def cs_R (M : sp_N) (F : sp_O) (N : sp_N) (g : Nat) : sp_N × sp_O := if M (4 + g) 0 = 0 ∧ M (4 + g) 1 = 0 then cs_r M F N g (N 6 0) else (M, F)
/-- conclude -/
def cs_c1 (M : sp_N) (F : sp_O) (t v : Nat) : sp_N := match F (20 + t) 5 with
  | none => sp_u M (20 + t) 3 v
  | some k => sp_u (sp_u M (20 + t) 3 v) k 3 3
def cs_cc (M : sp_N) (F : sp_O) (N : sp_N) (t v : Nat) : sp_N × sp_O := match F (20 + t) 6 with
  | none => (cs_c1 M F t v, F)
  | some k => cs_R (sp_u (cs_c1 M F t v) k 1 (M k 1 - 1)) F N (k - 4)
section CWW
variable {p : Program} {l : Launch} {e : Env} {R : Room} {s : State} {m : MethodId} {args : Array Value} {below : List Frame} {meth : Method} {c : Code} {H H0 : Heap} {locs : List Loc} {cells slots : Nat} {Q : State → Prop}
variable {cc bytes : ByteArray} {pc nL maxL index n : Nat} {ls : Array Slot} {rest st0 : List Value} {D : va_G} {ks : List Nat} {ad : Nat → Nat} {ca : Nat → ClassId} {M M' : sp_N} {X X' : sp_B} {F F' : sp_O} {G G' : sp_Z} {Ts ws : List Cond} {y : MethodName} {ret : Option FieldType} {rm : Room} {As : List Value} {own C : String} {T : u_T} {NF ci k : Nat} {fs : List Value}
/-- a call, inside the class, of a void method that writes -/
theorem cw_callwv (S : CallFix p m c cc nL s args Ts own) (hM : Met l y ws rm (va_Pc (.ref (ad k) :: As) (cw_U D ks ad ca M X F G)) (va_Qv (fun (_ : Unit) => True) (fun _ t => cw_U D ks ad ca M' X' F' G' t) (cw_A ks ad)) 0 0 (cw_A ks ad)) (cw : CallW R s args own C index y bytes maxL ret ws rm 0 0 n) (hK : va_K D vw_cl (cw_T ca) s) (hP : va_P D vw_cl (cw_W ks ad ca M X F G) H) (hS : va_S (cw_A ks ad) H0 H locs) (hk : k ∈ ks) (hE : cw_C ad ca k (M k) (X k) (F k) (G k) = .inr (ci, fs)) (hc : vw_cl[ci]? = some (C, T, NF)) (hn : As.length = n) (hsize : ls.size = nL) (hstack : st0 = As.reverse ++ .ref (ad k) :: rest) (hW : (rest.map fun v => v.category).sum ≤ 8) (hdg : decode cc pc = .ok (.invokevirtual index, 3)) (hf : cells ≤ R.cells ∧ slots ≤ R.slots)
    (kk : ∀ (H1 : Heap) (locs1 : List Loc), va_P D vw_cl (cw_W ks ad ca M' X' F' G') H1 → va_S (cw_A ks ad) H0 H1 locs1 → W p l e R s m args below meth c H1 locs1 cells slots Q (F0 m (pc + 3) ls rest)) : W p l e R s m args below meth c H locs cells slots Q (F0 m pc ls st0) := by
  subst hstack
  exact va_callv (va_runV S hM cw ⟨cw_blind D ks ad ca M X F G _, cw_recv hK hP hk hE hc, fun U hU hW => ⟨rfl, by rw [hU]; exact hP, va_K.moved hW.alike hK⟩⟩ rfl hn hsize rfl (lv_room hW) hdg hf) hS (fun q _ h => h) (fun q h => h) (fun u t H1 locs1 ht hvm hr hB hz hk hS1 => kk H1 locs1 (by rw [← ht]; exact hB.1) hS1)
end CWW
end
