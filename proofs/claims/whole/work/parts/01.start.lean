-- ===== PART A: goes FIRST, ahead of the names: the tables' words, and 'selects' of the private methods out of them =====
/-- a private method of a class that the tables say can be made, by its rows of tables_1 -/
def lw_okq (q : MethodName × Nat) : Prop := (q.1.cls ≠ "java/lang/invoke/MethodHandle" ∧ q.1.cls ≠ "java/lang/invoke/VarHandle") ∧ Cond.instantiable q.1.cls q.2 ∈ tables_1 ∧ Cond.privateMethod q.1 ∈ tables_1 ∧ Cond.instanceMethod q.1 ∈ tables_1
theorem lw_p0 : lw_okq (⟨"CulpritFinder$History", "addParent", "(II)V"⟩, 5) := ⟨⟨by decide +kernel, by decide +kernel⟩, List.mem_of_getElem? (i := 20) (by decide +kernel), List.mem_of_getElem? (i := 176) (by decide +kernel), List.mem_of_getElem? (i := 177) (by decide +kernel)⟩
theorem lw_p1 : lw_okq (⟨"CulpritFinder$Machine", "hasOperations", "()Z"⟩, 4) := ⟨⟨by decide +kernel, by decide +kernel⟩, List.mem_of_getElem? (i := 45) (by decide +kernel), List.mem_of_getElem? (i := 222) (by decide +kernel), List.mem_of_getElem? (i := 223) (by decide +kernel)⟩
theorem lw_p2 : lw_okq (⟨"CulpritFinder$Machine", "pairsBlocks", "()Z"⟩, 4) := ⟨⟨by decide +kernel, by decide +kernel⟩, List.mem_of_getElem? (i := 45) (by decide +kernel), List.mem_of_getElem? (i := 229) (by decide +kernel), List.mem_of_getElem? (i := 230) (by decide +kernel)⟩
theorem lw_p3 : lw_okq (⟨"CulpritFinder$Machine", "setsBeforeReading", "()Z"⟩, 4) := ⟨⟨by decide +kernel, by decide +kernel⟩, List.mem_of_getElem? (i := 45) (by decide +kernel), List.mem_of_getElem? (i := 233) (by decide +kernel), List.mem_of_getElem? (i := 234) (by decide +kernel)⟩
theorem lw_p4 : lw_okq (⟨"CulpritFinder$Machine", "runWith", "(I)I"⟩, 4) := ⟨⟨by decide +kernel, by decide +kernel⟩, List.mem_of_getElem? (i := 45) (by decide +kernel), List.mem_of_getElem? (i := 246) (by decide +kernel), List.mem_of_getElem? (i := 247) (by decide +kernel)⟩
theorem lw_p5 : lw_okq (⟨"CulpritFinder$Machine", "lineAfter", "(I)I"⟩, 4) := ⟨⟨by decide +kernel, by decide +kernel⟩, List.mem_of_getElem? (i := 45) (by decide +kernel), List.mem_of_getElem? (i := 253) (by decide +kernel), List.mem_of_getElem? (i := 254) (by decide +kernel)⟩
theorem lw_p6 : lw_okq (⟨"CulpritFinder$Search", "plan", "()V"⟩, 17) := ⟨⟨by decide +kernel, by decide +kernel⟩, List.mem_of_getElem? (i := 64) (by decide +kernel), List.mem_of_getElem? (i := 283) (by decide +kernel), List.mem_of_getElem? (i := 284) (by decide +kernel)⟩
theorem lw_p7 : lw_okq (⟨"CulpritFinder$Search", "planEnds", "()V"⟩, 17) := ⟨⟨by decide +kernel, by decide +kernel⟩, List.mem_of_getElem? (i := 64) (by decide +kernel), List.mem_of_getElem? (i := 287) (by decide +kernel), List.mem_of_getElem? (i := 288) (by decide +kernel)⟩
theorem lw_p8 : lw_okq (⟨"CulpritFinder$Search", "planHalving", "()V"⟩, 17) := ⟨⟨by decide +kernel, by decide +kernel⟩, List.mem_of_getElem? (i := 64) (by decide +kernel), List.mem_of_getElem? (i := 291) (by decide +kernel), List.mem_of_getElem? (i := 292) (by decide +kernel)⟩
theorem lw_p9 : lw_okq (⟨"CulpritFinder$Search", "bestHalver", "()I"⟩, 17) := ⟨⟨by decide +kernel, by decide +kernel⟩, List.mem_of_getElem? (i := 64) (by decide +kernel), List.mem_of_getElem? (i := 295) (by decide +kernel), List.mem_of_getElem? (i := 296) (by decide +kernel)⟩
theorem lw_p10 : lw_okq (⟨"CulpritFinder$Search", "planReducing", "()V"⟩, 17) := ⟨⟨by decide +kernel, by decide +kernel⟩, List.mem_of_getElem? (i := 64) (by decide +kernel), List.mem_of_getElem? (i := 317) (by decide +kernel), List.mem_of_getElem? (i := 318) (by decide +kernel)⟩
theorem lw_p11 : lw_okq (⟨"CulpritFinder$Reduction", "firstNotHarmless", "(ZI)I"⟩, 3) := ⟨⟨by decide +kernel, by decide +kernel⟩, List.mem_of_getElem? (i := 70) (by decide +kernel), List.mem_of_getElem? (i := 331) (by decide +kernel), List.mem_of_getElem? (i := 332) (by decide +kernel)⟩
theorem lw_p12 : lw_okq (⟨"CulpritFinder$Reduction", "placesOfSet", "(II)I"⟩, 3) := ⟨⟨by decide +kernel, by decide +kernel⟩, List.mem_of_getElem? (i := 70) (by decide +kernel), List.mem_of_getElem? (i := 335) (by decide +kernel), List.mem_of_getElem? (i := 336) (by decide +kernel)⟩
theorem lw_p13 : lw_okq (⟨"CulpritFinder$Search", "judgeUpcoming", "()I"⟩, 17) := ⟨⟨by decide +kernel, by decide +kernel⟩, List.mem_of_getElem? (i := 64) (by decide +kernel), List.mem_of_getElem? (i := 368) (by decide +kernel), List.mem_of_getElem? (i := 369) (by decide +kernel)⟩
theorem lw_p14 : lw_okq (⟨"CulpritFinder$Search", "keepVerdict", "(II)V"⟩, 17) := ⟨⟨by decide +kernel, by decide +kernel⟩, List.mem_of_getElem? (i := 64) (by decide +kernel), List.mem_of_getElem? (i := 375) (by decide +kernel), List.mem_of_getElem? (i := 376) (by decide +kernel)⟩
theorem lw_p15 : lw_okq (⟨"CulpritFinderModel", "isCommit", "(I)Z"⟩, 24) := ⟨⟨by decide +kernel, by decide +kernel⟩, List.mem_of_getElem? (i := 422) (by decide +kernel), List.mem_of_getElem? (i := 504) (by decide +kernel), List.mem_of_getElem? (i := 505) (by decide +kernel)⟩
def lw_privs_1 : List (MethodName × Nat) := [(⟨"CulpritFinder$History", "addParent", "(II)V"⟩, 5), (⟨"CulpritFinder$Machine", "hasOperations", "()Z"⟩, 4), (⟨"CulpritFinder$Machine", "pairsBlocks", "()Z"⟩, 4), (⟨"CulpritFinder$Machine", "setsBeforeReading", "()Z"⟩, 4), (⟨"CulpritFinder$Machine", "runWith", "(I)I"⟩, 4), (⟨"CulpritFinder$Machine", "lineAfter", "(I)I"⟩, 4), (⟨"CulpritFinder$Search", "plan", "()V"⟩, 17), (⟨"CulpritFinder$Search", "planEnds", "()V"⟩, 17), (⟨"CulpritFinder$Search", "planHalving", "()V"⟩, 17), (⟨"CulpritFinder$Search", "bestHalver", "()I"⟩, 17), (⟨"CulpritFinder$Search", "planReducing", "()V"⟩, 17), (⟨"CulpritFinder$Reduction", "firstNotHarmless", "(ZI)I"⟩, 3), (⟨"CulpritFinder$Reduction", "placesOfSet", "(II)I"⟩, 3), (⟨"CulpritFinder$Search", "judgeUpcoming", "()I"⟩, 17), (⟨"CulpritFinder$Search", "keepVerdict", "(II)V"⟩, 17), (⟨"CulpritFinderModel", "isCommit", "(I)Z"⟩, 24)]
theorem lw_r1 : ∀ q ∈ lw_privs_1, lw_okq q := List.forall_mem_cons.mpr ⟨lw_p0, List.forall_mem_cons.mpr ⟨lw_p1, List.forall_mem_cons.mpr ⟨lw_p2, List.forall_mem_cons.mpr ⟨lw_p3, List.forall_mem_cons.mpr ⟨lw_p4, List.forall_mem_cons.mpr ⟨lw_p5, List.forall_mem_cons.mpr ⟨lw_p6, List.forall_mem_cons.mpr ⟨lw_p7, List.forall_mem_cons.mpr ⟨lw_p8, List.forall_mem_cons.mpr ⟨lw_p9, List.forall_mem_cons.mpr ⟨lw_p10, List.forall_mem_cons.mpr ⟨lw_p11, List.forall_mem_cons.mpr ⟨lw_p12, List.forall_mem_cons.mpr ⟨lw_p13, List.forall_mem_cons.mpr ⟨lw_p14, List.forall_mem_cons.mpr ⟨lw_p15, fun _ h => absurd h List.not_mem_nil⟩⟩⟩⟩⟩⟩⟩⟩⟩⟩⟩⟩⟩⟩⟩⟩
theorem lw_p16 : lw_okq (⟨"CulpritFinderModel", "load", "(I)V"⟩, 24) := ⟨⟨by decide +kernel, by decide +kernel⟩, List.mem_of_getElem? (i := 422) (by decide +kernel), List.mem_of_getElem? (i := 523) (by decide +kernel), List.mem_of_getElem? (i := 524) (by decide +kernel)⟩
theorem lw_p17 : lw_okq (⟨"CulpritFinderModel", "run", "(I)I"⟩, 24) := ⟨⟨by decide +kernel, by decide +kernel⟩, List.mem_of_getElem? (i := 422) (by decide +kernel), List.mem_of_getElem? (i := 527) (by decide +kernel), List.mem_of_getElem? (i := 528) (by decide +kernel)⟩
theorem lw_p18 : lw_okq (⟨"CulpritFinderModel", "isBuildable", "()Z"⟩, 24) := ⟨⟨by decide +kernel, by decide +kernel⟩, List.mem_of_getElem? (i := 422) (by decide +kernel), List.mem_of_getElem? (i := 531) (by decide +kernel), List.mem_of_getElem? (i := 532) (by decide +kernel)⟩
theorem lw_p19 : lw_okq (⟨"CulpritFinderModel", "operation", "(I)I"⟩, 24) := ⟨⟨by decide +kernel, by decide +kernel⟩, List.mem_of_getElem? (i := 422) (by decide +kernel), List.mem_of_getElem? (i := 535) (by decide +kernel), List.mem_of_getElem? (i := 536) (by decide +kernel)⟩
theorem lw_p20 : lw_okq (⟨"CulpritFinderModel", "a", "(I)I"⟩, 24) := ⟨⟨by decide +kernel, by decide +kernel⟩, List.mem_of_getElem? (i := 422) (by decide +kernel), List.mem_of_getElem? (i := 539) (by decide +kernel), List.mem_of_getElem? (i := 540) (by decide +kernel)⟩
theorem lw_p21 : lw_okq (⟨"CulpritFinderModel", "isSet", "(II)Z"⟩, 24) := ⟨⟨by decide +kernel, by decide +kernel⟩, List.mem_of_getElem? (i := 422) (by decide +kernel), List.mem_of_getElem? (i := 543) (by decide +kernel), List.mem_of_getElem? (i := 544) (by decide +kernel)⟩
theorem lw_p22 : lw_okq (⟨"CulpritFinderModel", "b", "(I)I"⟩, 24) := ⟨⟨by decide +kernel, by decide +kernel⟩, List.mem_of_getElem? (i := 422) (by decide +kernel), List.mem_of_getElem? (i := 547) (by decide +kernel), List.mem_of_getElem? (i := 548) (by decide +kernel)⟩
theorem lw_p23 : lw_okq (⟨"CulpritFinderModel", "pairs", "()Z"⟩, 24) := ⟨⟨by decide +kernel, by decide +kernel⟩, List.mem_of_getElem? (i := 422) (by decide +kernel), List.mem_of_getElem? (i := 551) (by decide +kernel), List.mem_of_getElem? (i := 552) (by decide +kernel)⟩
theorem lw_p24 : lw_okq (⟨"CulpritFinderModel", "work", "()V"⟩, 24) := ⟨⟨by decide +kernel, by decide +kernel⟩, List.mem_of_getElem? (i := 422) (by decide +kernel), List.mem_of_getElem? (i := 567) (by decide +kernel), List.mem_of_getElem? (i := 568) (by decide +kernel)⟩
theorem lw_p25 : lw_okq (⟨"CulpritFinderModel", "ends", "()Z"⟩, 24) := ⟨⟨by decide +kernel, by decide +kernel⟩, List.mem_of_getElem? (i := 422) (by decide +kernel), List.mem_of_getElem? (i := 571) (by decide +kernel), List.mem_of_getElem? (i := 572) (by decide +kernel)⟩
theorem lw_p26 : lw_okq (⟨"CulpritFinderModel", "ask", "(I)I"⟩, 24) := ⟨⟨by decide +kernel, by decide +kernel⟩, List.mem_of_getElem? (i := 422) (by decide +kernel), List.mem_of_getElem? (i := 575) (by decide +kernel), List.mem_of_getElem? (i := 576) (by decide +kernel)⟩
theorem lw_p27 : lw_okq (⟨"CulpritFinderModel", "known", "(II)I"⟩, 24) := ⟨⟨by decide +kernel, by decide +kernel⟩, List.mem_of_getElem? (i := 422) (by decide +kernel), List.mem_of_getElem? (i := 579) (by decide +kernel), List.mem_of_getElem? (i := 580) (by decide +kernel)⟩
theorem lw_p28 : lw_okq (⟨"CulpritFinderModel", "halve", "()Z"⟩, 24) := ⟨⟨by decide +kernel, by decide +kernel⟩, List.mem_of_getElem? (i := 422) (by decide +kernel), List.mem_of_getElem? (i := 583) (by decide +kernel), List.mem_of_getElem? (i := 584) (by decide +kernel)⟩
theorem lw_p29 : lw_okq (⟨"CulpritFinderModel", "middle", "(II)I"⟩, 24) := ⟨⟨by decide +kernel, by decide +kernel⟩, List.mem_of_getElem? (i := 422) (by decide +kernel), List.mem_of_getElem? (i := 587) (by decide +kernel), List.mem_of_getElem? (i := 588) (by decide +kernel)⟩
theorem lw_p30 : lw_okq (⟨"CulpritFinderModel", "weightOf", "(I)I"⟩, 24) := ⟨⟨by decide +kernel, by decide +kernel⟩, List.mem_of_getElem? (i := 422) (by decide +kernel), List.mem_of_getElem? (i := 594) (by decide +kernel), List.mem_of_getElem? (i := 595) (by decide +kernel)⟩
theorem lw_p31 : lw_okq (⟨"CulpritFinderModel", "reduce", "()V"⟩, 24) := ⟨⟨by decide +kernel, by decide +kernel⟩, List.mem_of_getElem? (i := 422) (by decide +kernel), List.mem_of_getElem? (i := 598) (by decide +kernel), List.mem_of_getElem? (i := 599) (by decide +kernel)⟩
def lw_privs_2 : List (MethodName × Nat) := [(⟨"CulpritFinderModel", "load", "(I)V"⟩, 24), (⟨"CulpritFinderModel", "run", "(I)I"⟩, 24), (⟨"CulpritFinderModel", "isBuildable", "()Z"⟩, 24), (⟨"CulpritFinderModel", "operation", "(I)I"⟩, 24), (⟨"CulpritFinderModel", "a", "(I)I"⟩, 24), (⟨"CulpritFinderModel", "isSet", "(II)Z"⟩, 24), (⟨"CulpritFinderModel", "b", "(I)I"⟩, 24), (⟨"CulpritFinderModel", "pairs", "()Z"⟩, 24), (⟨"CulpritFinderModel", "work", "()V"⟩, 24), (⟨"CulpritFinderModel", "ends", "()Z"⟩, 24), (⟨"CulpritFinderModel", "ask", "(I)I"⟩, 24), (⟨"CulpritFinderModel", "known", "(II)I"⟩, 24), (⟨"CulpritFinderModel", "halve", "()Z"⟩, 24), (⟨"CulpritFinderModel", "middle", "(II)I"⟩, 24), (⟨"CulpritFinderModel", "weightOf", "(I)I"⟩, 24), (⟨"CulpritFinderModel", "reduce", "()V"⟩, 24)]
theorem lw_r2 : ∀ q ∈ lw_privs_2, lw_okq q := List.forall_mem_cons.mpr ⟨lw_p16, List.forall_mem_cons.mpr ⟨lw_p17, List.forall_mem_cons.mpr ⟨lw_p18, List.forall_mem_cons.mpr ⟨lw_p19, List.forall_mem_cons.mpr ⟨lw_p20, List.forall_mem_cons.mpr ⟨lw_p21, List.forall_mem_cons.mpr ⟨lw_p22, List.forall_mem_cons.mpr ⟨lw_p23, List.forall_mem_cons.mpr ⟨lw_p24, List.forall_mem_cons.mpr ⟨lw_p25, List.forall_mem_cons.mpr ⟨lw_p26, List.forall_mem_cons.mpr ⟨lw_p27, List.forall_mem_cons.mpr ⟨lw_p28, List.forall_mem_cons.mpr ⟨lw_p29, List.forall_mem_cons.mpr ⟨lw_p30, List.forall_mem_cons.mpr ⟨lw_p31, fun _ h => absurd h List.not_mem_nil⟩⟩⟩⟩⟩⟩⟩⟩⟩⟩⟩⟩⟩⟩⟩⟩
theorem lw_p32 : lw_okq (⟨"CulpritFinderModel", "failing", "(IZI)I"⟩, 24) := ⟨⟨by decide +kernel, by decide +kernel⟩, List.mem_of_getElem? (i := 422) (by decide +kernel), List.mem_of_getElem? (i := 602) (by decide +kernel), List.mem_of_getElem? (i := 603) (by decide +kernel)⟩
theorem lw_p33 : lw_okq (⟨"CulpritFinderModel", "askSet", "(II)I"⟩, 24) := ⟨⟨by decide +kernel, by decide +kernel⟩, List.mem_of_getElem? (i := 422) (by decide +kernel), List.mem_of_getElem? (i := 609) (by decide +kernel), List.mem_of_getElem? (i := 610) (by decide +kernel)⟩
theorem lw_p34 : lw_okq (⟨"CulpritFinderModel", "judge", "(I)I"⟩, 24) := ⟨⟨by decide +kernel, by decide +kernel⟩, List.mem_of_getElem? (i := 422) (by decide +kernel), List.mem_of_getElem? (i := 621) (by decide +kernel), List.mem_of_getElem? (i := 622) (by decide +kernel)⟩
def lw_privs_3 : List (MethodName × Nat) := [(⟨"CulpritFinderModel", "failing", "(IZI)I"⟩, 24), (⟨"CulpritFinderModel", "askSet", "(II)I"⟩, 24), (⟨"CulpritFinderModel", "judge", "(I)I"⟩, 24)]
theorem lw_r3 : ∀ q ∈ lw_privs_3, lw_okq q := List.forall_mem_cons.mpr ⟨lw_p32, List.forall_mem_cons.mpr ⟨lw_p33, List.forall_mem_cons.mpr ⟨lw_p34, fun _ h => absurd h List.not_mem_nil⟩⟩⟩
def lw_privs : List (MethodName × Nat) := lw_privs_1 ++ (lw_privs_2 ++ (lw_privs_3))
def lw_tbl : List Cond := k2_sels lw_privs ++ tables_1
theorem lw_privs_ok : ∀ q ∈ lw_privs, lw_okq q := by
  show ∀ q ∈ lw_privs_1 ++ (lw_privs_2 ++ (lw_privs_3)), lw_okq q
  exact List.forall_mem_append.mpr ⟨lw_r1, List.forall_mem_append.mpr ⟨lw_r2, lw_r3⟩⟩
def cf_T0 : u_T := fun k => match k with
  | 0 => ("CulpritFinder$History", "firstParents", "[I", true)
  | 1 => ("CulpritFinder$History", "ancestors", "[I", true)
  | 2 => ("CulpritFinder$History", "codes", "[I", true)
  | 3 => ("CulpritFinder$History", "parents", "I", false)
  | _ => ("CulpritFinder$History", "size", "I", false)
def cf_y0 : Nat → FieldType := fun k => match k with
  | 0 => .array .int
  | 1 => .array .int
  | 2 => .array .int
  | 3 => .int
  | _ => .int
theorem cf_nm0 : ∀ a, a < 5 → ∀ b, b < 5 → a ≠ b → (cf_T0 a).2.1 ≠ (cf_T0 b).2.1 := by decide +kernel
theorem cf_ty0 : ∀ k, k < 5 → parseFieldDescriptor (cf_T0 k).2.2.1 = some (cf_y0 k) := by decide +kernel
def cf_T1 : u_T := fun k => match k with
  | 0 => ("CulpritFinder$Machine", "codes", "[I", true)
  | 1 => ("CulpritFinder$Machine", "partners", "[I", true)
  | 2 => ("CulpritFinder$Machine", "openLines", "[I", true)
  | _ => ("CulpritFinder$Machine", "variables", "[I", true)
def cf_y1 : Nat → FieldType := fun k => match k with
  | 0 => .array .int
  | 1 => .array .int
  | 2 => .array .int
  | _ => .array .int
theorem cf_nm1 : ∀ a, a < 4 → ∀ b, b < 4 → a ≠ b → (cf_T1 a).2.1 ≠ (cf_T1 b).2.1 := by decide +kernel
theorem cf_ty1 : ∀ k, k < 4 → parseFieldDescriptor (cf_T1 k).2.2.1 = some (cf_y1 k) := by decide +kernel
def cf_T2 : u_T := fun k => match k with
  | 0 => ("CulpritFinder$Reduction", "verdicts", "[I", true)
  | 1 => ("CulpritFinder$Reduction", "set", "I", false)
  | _ => ("CulpritFinder$Reduction", "pieces", "I", false)
def cf_y2 : Nat → FieldType := fun k => match k with
  | 0 => .array .int
  | 1 => .int
  | _ => .int
theorem cf_nm2 : ∀ a, a < 3 → ∀ b, b < 3 → a ≠ b → (cf_T2 a).2.1 ≠ (cf_T2 b).2.1 := by decide +kernel
theorem cf_ty2 : ∀ k, k < 3 → parseFieldDescriptor (cf_T2 k).2.2.1 = some (cf_y2 k) := by decide +kernel
def cf_T3 : u_T := fun k => match k with
  | 0 => ("CulpritFinder$Search", "history", "LCulpritFinder$History;", true)
  | 1 => ("CulpritFinder$Search", "machine", "LCulpritFinder$Machine;", true)
  | 2 => ("CulpritFinder$Search", "reduction", "LCulpritFinder$Reduction;", true)
  | 3 => ("CulpritFinder$Search", "journal", "[I", true)
  | 4 => ("CulpritFinder$Search", "verdicts", "[I", true)
  | 5 => ("CulpritFinder$Search", "journalLength", "I", false)
  | 6 => ("CulpritFinder$Search", "stage", "I", false)
  | 7 => ("CulpritFinder$Search", "good", "I", false)
  | 8 => ("CulpritFinder$Search", "bad", "I", false)
  | 9 => ("CulpritFinder$Search", "input", "I", false)
  | 10 => ("CulpritFinder$Search", "lastFailed", "I", false)
  | 11 => ("CulpritFinder$Search", "cleared", "I", false)
  | 12 => ("CulpritFinder$Search", "suspects", "I", false)
  | 13 => ("CulpritFinder$Search", "culprit", "I", false)
  | 14 => ("CulpritFinder$Search", "upcoming", "I", false)
  | 15 => ("CulpritFinder$Search", "testRuns", "Z", false)
  | _ => ("CulpritFinder$Search", "startedTests", "I", false)
def cf_y3 : Nat → FieldType := fun k => match k with
  | 0 => .object "CulpritFinder$History"
  | 1 => .object "CulpritFinder$Machine"
  | 2 => .object "CulpritFinder$Reduction"
  | 3 => .array .int
  | 4 => .array .int
  | 5 => .int
  | 6 => .int
  | 7 => .int
  | 8 => .int
  | 9 => .int
  | 10 => .int
  | 11 => .int
  | 12 => .int
  | 13 => .int
  | 14 => .int
  | 15 => .boolean
  | _ => .int
theorem cf_nm3 : ∀ a, a < 17 → ∀ b, b < 17 → a ≠ b → (cf_T3 a).2.1 ≠ (cf_T3 b).2.1 := by decide +kernel
theorem cf_ty3 : ∀ k, k < 17 → parseFieldDescriptor (cf_T3 k).2.2.1 = some (cf_y3 k) := by decide +kernel
def cf_T4 : u_T := fun k => match k with
  | 0 => ("CulpritFinder", "history", "LCulpritFinder$History;", true)
  | 1 => ("CulpritFinder", "machine", "LCulpritFinder$Machine;", true)
  | _ => ("CulpritFinder", "search", "LCulpritFinder$Search;", true)
def cf_y4 : Nat → FieldType := fun k => match k with
  | 0 => .object "CulpritFinder$History"
  | 1 => .object "CulpritFinder$Machine"
  | _ => .object "CulpritFinder$Search"
theorem cf_nm4 : ∀ a, a < 3 → ∀ b, b < 3 → a ≠ b → (cf_T4 a).2.1 ≠ (cf_T4 b).2.1 := by decide +kernel
theorem cf_ty4 : ∀ k, k < 3 → parseFieldDescriptor (cf_T4 k).2.2.1 = some (cf_y4 k) := by decide +kernel
def cf_T5 : u_T := fun k => match k with
  | 0 => ("CulpritFinderModel", "commits", "I", false)
  | 1 => ("CulpritFinderModel", "first", "[I", false)
  | 2 => ("CulpritFinderModel", "second", "[I", false)
  | 3 => ("CulpritFinderModel", "lines", "[I", false)
  | 4 => ("CulpritFinderModel", "above", "[I", false)
  | 5 => ("CulpritFinderModel", "searching", "Z", false)
  | 6 => ("CulpritFinderModel", "good", "I", false)
  | 7 => ("CulpritFinderModel", "bad", "I", false)
  | 8 => ("CulpritFinderModel", "input", "I", false)
  | 9 => ("CulpritFinderModel", "running", "Z", false)
  | 10 => ("CulpritFinderModel", "started", "I", false)
  | 11 => ("CulpritFinderModel", "many", "I", false)
  | 12 => ("CulpritFinderModel", "test", "[I", false)
  | 13 => ("CulpritFinderModel", "verdict", "[I", false)
  | 14 => ("CulpritFinderModel", "program", "[I", false)
  | 15 => ("CulpritFinderModel", "pair", "[I", false)
  | 16 => ("CulpritFinderModel", "open", "[I", false)
  | 17 => ("CulpritFinderModel", "value", "[I", false)
  | 18 => ("CulpritFinderModel", "state", "I", false)
  | 19 => ("CulpritFinderModel", "next", "I", false)
  | 20 => ("CulpritFinderModel", "suspects", "I", false)
  | 21 => ("CulpritFinderModel", "culprit", "I", false)
  | 22 => ("CulpritFinderModel", "set", "I", false)
  | _ => ("CulpritFinderModel", "at", "I", false)
def cf_y5 : Nat → FieldType := fun k => match k with
  | 0 => .int
  | 1 => .array .int
  | 2 => .array .int
  | 3 => .array .int
  | 4 => .array .int
  | 5 => .boolean
  | 6 => .int
  | 7 => .int
  | 8 => .int
  | 9 => .boolean
  | 10 => .int
  | 11 => .int
  | 12 => .array .int
  | 13 => .array .int
  | 14 => .array .int
  | 15 => .array .int
  | 16 => .array .int
  | 17 => .array .int
  | 18 => .int
  | 19 => .int
  | 20 => .int
  | 21 => .int
  | 22 => .int
  | _ => .int
theorem cf_nm5 : ∀ a, a < 24 → ∀ b, b < 24 → a ≠ b → (cf_T5 a).2.1 ≠ (cf_T5 b).2.1 := by decide +kernel
theorem cf_ty5 : ∀ k, k < 24 → parseFieldDescriptor (cf_T5 k).2.2.1 = some (cf_y5 k) := by decide +kernel
def cf_cls : List vw_C := [("CulpritFinder$History", cf_T0, 5), ("CulpritFinder$Machine", cf_T1, 4), ("CulpritFinder$Reduction", cf_T2, 3), ("CulpritFinder$Search", cf_T3, 17), ("CulpritFinder", cf_T4, 3), ("CulpritFinderModel", cf_T5, 24)]
