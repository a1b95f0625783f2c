section
-- ===== PART A: goes FIRST, ahead of the names: the tables' words, and 'selects' of the private methods out of them =====
/-- a private method of a class that the tables say can be made, by its rows of tables_1 -/
def lw_okq (q : MethodName × Nat) : Prop := (q.1.cls ≠ "java/lang/invoke/MethodHandle" ∧ q.1.cls ≠ "java/lang/invoke/VarHandle") ∧ Cond.instantiable q.1.cls q.2 ∈ tables_1 ∧ Cond.privateMethod q.1 ∈ tables_1 ∧ Cond.instanceMethod q.1 ∈ tables_1
theorem lw_p0 : lw_okq (⟨"CulpritFinder$History", "addParent", "(II)V"⟩, 5) := ⟨⟨by decide +kernel, by decide +kernel⟩, List.mem_of_getElem? (i := 20) (by decide +kernel), List.mem_of_getElem? (i := 176) (by decide +kernel), List.mem_of_getElem? (i := 177) (by decide +kernel)⟩
theorem lw_p1 : lw_okq (⟨"CulpritFinder$Machine", "hasOperations", "()Z"⟩, 4) := ⟨⟨by decide +kernel, by decide +kernel⟩, List.mem_of_getElem? (i := 45) (by decide +kernel), List.mem_of_getElem? (i := 222) (by decide +kernel), List.mem_of_getElem? (i := 223) (by decide +kernel)⟩
theorem lw_p2 : lw_okq (⟨"CulpritFinder$Machine", "pairsBlocks", "()Z"⟩, 4) := ⟨⟨by decide +kernel, by decide +kernel⟩, List.mem_of_getElem? (i := 45) (by decide +kernel), List.mem_of_getElem? (i := 229) (by decide +kernel), List.mem_of_getElem? (i := 230) (by decide +kernel)⟩
theorem lw_p3 : lw_okq (⟨"CulpritFinder$Machine", "setsBeforeReading", "()Z"⟩, 4) := ⟨⟨by decide +kernel, by decide +kernel⟩, List.mem_of_getElem? (i := 45) (by decide +kernel), List.mem_of_getElem? (i := 233) (by decide +kernel), List.mem_of_getElem? (i := 234) (by decide +kernel)⟩
theorem lw_p4 : lw_okq (⟨"CulpritFinder$Machine", "runWith", "(I)I"⟩, 4) := ⟨⟨by decide +kernel, by decide +kernel⟩, List.mem_of_getElem? (i := 45) (by decide +kernel), List.mem_of_getElem? (i := 246) (by decide +kernel), List.mem_of_getElem? (i := 247) (by decide +kernel)⟩
theorem lw_p5 : lw_okq (⟨"CulpritFinder$Machine", "lineAfter", "(I)I"⟩, 4) := ⟨⟨by decide +kernel, by decide +kernel⟩, List.mem_of_getElem? (i := 45) (by decide +kernel), List.mem_of_getElem? (i := 253) (by decide +kernel), List.mem_of_getElem? (i := 254) (by decide +kernel)⟩
theorem lw_p6 : lw_okq (⟨"CulpritFinder$Search", "plan", "()V"⟩, 17) := ⟨⟨by decide +kernel, by decide +kernel⟩, List.mem_of_getElem? (i := 64) (by decide +kernel), List.mem_of_getElem? (i := 283) (by decide +kernel), List.mem_of_getElem? (i := 284) (by decide +kernel)⟩
theorem lw_p7 : lw_okq (⟨"CulpritFinder$Search", "planEnds", "()V"⟩, 17) := ⟨⟨by decide +kernel, by decide +kernel⟩, List.mem_of_getElem? (i := 64) (by decide +kernel), List.mem_of_getElem? (i := 287) (by decide +kernel), List.mem_of_getElem? (i := 288) (by decide +kernel)⟩
theorem lw_p8 : lw_okq (⟨"CulpritFinder$Search", "planHalving", "()V"⟩, 17) := ⟨⟨by decide +kernel, by decide +kernel⟩, List.mem_of_getElem? (i := 64) (by decide +kernel), List.mem_of_getElem? (i := 291) (by decide +kernel), List.mem_of_getElem? (i := 292) (by decide +kernel)⟩
theorem lw_p9 : lw_okq (⟨"CulpritFinder$Search", "bestHalver", "()I"⟩, 17) := ⟨⟨by decide +kernel, by decide +kernel⟩, List.mem_of_getElem? (i := 64) (by decide +kernel), List.mem_of_getElem? (i := 295) (by decide +kernel), List.mem_of_getElem? (i := 296) (by decide +kernel)⟩
theorem lw_p10 : lw_okq (⟨"CulpritFinder$Search", "planReducing", "()V"⟩, 17) := ⟨⟨by decide +kernel, by decide +kernel⟩, List.mem_of_getElem? (i := 64) (by decide +kernel), List.mem_of_getElem? (i := 317) (by decide +kernel), List.mem_of_getElem? (i := 318) (by decide +kernel)⟩
theorem lw_p11 : lw_okq (⟨"CulpritFinder$Reduction", "firstNotHarmless", "(ZI)I"⟩, 3) := ⟨⟨by decide +kernel, by decide +kernel⟩, List.mem_of_getElem? (i := 70) (by decide +kernel), List.mem_of_getElem? (i := 331) (by decide +kernel), List.mem_of_getElem? (i := 332) (by decide +kernel)⟩
theorem lw_p12 : lw_okq (⟨"CulpritFinder$Reduction", "placesOfSet", "(II)I"⟩, 3) := ⟨⟨by decide +kernel, by decide +kernel⟩, List.mem_of_getElem? (i := 70) (by decide +kernel), List.mem_of_getElem? (i := 335) (by decide +kernel), List.mem_of_getElem? (i := 336) (by decide +kernel)⟩
theorem lw_p13 : lw_okq (⟨"CulpritFinder$Search", "judgeUpcoming", "()I"⟩, 17) := ⟨⟨by decide +kernel, by decide +kernel⟩, List.mem_of_getElem? (i := 64) (by decide +kernel), List.mem_of_getElem? (i := 368) (by decide +kernel), List.mem_of_getElem? (i := 369) (by decide +kernel)⟩
theorem lw_p14 : lw_okq (⟨"CulpritFinder$Search", "keepVerdict", "(II)V"⟩, 17) := ⟨⟨by decide +kernel, by decide +kernel⟩, List.mem_of_getElem? (i := 64) (by decide +kernel), List.mem_of_getElem? (i := 375) (by decide +kernel), List.mem_of_getElem? (i := 376) (by decide +kernel)⟩
theorem lw_p15 : lw_okq (⟨"CulpritFinderModel", "isCommit", "(I)Z"⟩, 24) := ⟨⟨by decide +kernel, by decide +kernel⟩, List.mem_of_getElem? (i := 422) (by decide +kernel), List.mem_of_getElem? (i := 504) (by decide +kernel), List.mem_of_getElem? (i := 505) (by decide +kernel)⟩
def lw_privs_1 : List (MethodName × Nat) := [(⟨"CulpritFinder$History", "addParent", "(II)V"⟩, 5), (⟨"CulpritFinder$Machine", "hasOperations", "()Z"⟩, 4), (⟨"CulpritFinder$Machine", "pairsBlocks", "()Z"⟩, 4), (⟨"CulpritFinder$Machine", "setsBeforeReading", "()Z"⟩, 4), (⟨"CulpritFinder$Machine", "runWith", "(I)I"⟩, 4), (⟨"CulpritFinder$Machine", "lineAfter", "(I)I"⟩, 4), (⟨"CulpritFinder$Search", "plan", "()V"⟩, 17), (⟨"CulpritFinder$Search", "planEnds", "()V"⟩, 17), (⟨"CulpritFinder$Search", "planHalving", "()V"⟩, 17), (⟨"CulpritFinder$Search", "bestHalver", "()I"⟩, 17), (⟨"CulpritFinder$Search", "planReducing", "()V"⟩, 17), (⟨"CulpritFinder$Reduction", "firstNotHarmless", "(ZI)I"⟩, 3), (⟨"CulpritFinder$Reduction", "placesOfSet", "(II)I"⟩, 3), (⟨"CulpritFinder$Search", "judgeUpcoming", "()I"⟩, 17), (⟨"CulpritFinder$Search", "keepVerdict", "(II)V"⟩, 17), (⟨"CulpritFinderModel", "isCommit", "(I)Z"⟩, 24)]
theorem lw_r1 : ∀ q ∈ lw_privs_1, lw_okq q := List.forall_mem_cons.mpr ⟨lw_p0, List.forall_mem_cons.mpr ⟨lw_p1, List.forall_mem_cons.mpr ⟨lw_p2, List.forall_mem_cons.mpr ⟨lw_p3, List.forall_mem_cons.mpr ⟨lw_p4, List.forall_mem_cons.mpr ⟨lw_p5, List.forall_mem_cons.mpr ⟨lw_p6, List.forall_mem_cons.mpr ⟨lw_p7, List.forall_mem_cons.mpr ⟨lw_p8, List.forall_mem_cons.mpr ⟨lw_p9, List.forall_mem_cons.mpr ⟨lw_p10, List.forall_mem_cons.mpr ⟨lw_p11, List.forall_mem_cons.mpr ⟨lw_p12, List.forall_mem_cons.mpr ⟨lw_p13, List.forall_mem_cons.mpr ⟨lw_p14, List.forall_mem_cons.mpr ⟨lw_p15, fun _ h => absurd h List.not_mem_nil⟩⟩⟩⟩⟩⟩⟩⟩⟩⟩⟩⟩⟩⟩⟩⟩
theorem lw_p16 : lw_okq (⟨"CulpritFinderModel", "load", "(I)V"⟩, 24) := ⟨⟨by decide +kernel, by decide +kernel⟩, List.mem_of_getElem? (i := 422) (by decide +kernel), List.mem_of_getElem? (i := 523) (by decide +kernel), List.mem_of_getElem? (i := 524) (by decide +kernel)⟩
theorem lw_p17 : lw_okq (⟨"CulpritFinderModel", "run", "(I)I"⟩, 24) := ⟨⟨by decide +kernel, by decide +kernel⟩, List.mem_of_getElem? (i := 422) (by decide +kernel), List.mem_of_getElem? (i := 527) (by decide +kernel), List.mem_of_getElem? (i := 528) (by decide +kernel)⟩
theorem lw_p18 : lw_okq (⟨"CulpritFinderModel", "isBuildable", "()Z"⟩, 24) := ⟨⟨by decide +kernel, by decide +kernel⟩, List.mem_of_getElem? (i := 422) (by decide +kernel), List.mem_of_getElem? (i := 531) (by decide +kernel), List.mem_of_getElem? (i := 532) (by decide +kernel)⟩
theorem lw_p19 : lw_okq (⟨"CulpritFinderModel", "operation", "(I)I"⟩, 24) := ⟨⟨by decide +kernel, by decide +kernel⟩, List.mem_of_getElem? (i := 422) (by decide +kernel), List.mem_of_getElem? (i := 535) (by decide +kernel), List.mem_of_getElem? (i := 536) (by decide +kernel)⟩
theorem lw_p20 : lw_okq (⟨"CulpritFinderModel", "a", "(I)I"⟩, 24) := ⟨⟨by decide +kernel, by decide +kernel⟩, List.mem_of_getElem? (i := 422) (by decide +kernel), List.mem_of_getElem? (i := 539) (by decide +kernel), List.mem_of_getElem? (i := 540) (by decide +kernel)⟩
theorem lw_p21 : lw_okq (⟨"CulpritFinderModel", "isSet", "(II)Z"⟩, 24) := ⟨⟨by decide +kernel, by decide +kernel⟩, List.mem_of_getElem? (i := 422) (by decide +kernel), List.mem_of_getElem? (i := 543) (by decide +kernel), List.mem_of_getElem? (i := 544) (by decide +kernel)⟩
theorem lw_p22 : lw_okq (⟨"CulpritFinderModel", "b", "(I)I"⟩, 24) := ⟨⟨by decide +kernel, by decide +kernel⟩, List.mem_of_getElem? (i := 422) (by decide +kernel), List.mem_of_getElem? (i := 547) (by decide +kernel), List.mem_of_getElem? (i := 548) (by decide +kernel)⟩
theorem lw_p23 : lw_okq (⟨"CulpritFinderModel", "pairs", "()Z"⟩, 24) := ⟨⟨by decide +kernel, by decide +kernel⟩, List.mem_of_getElem? (i := 422) (by decide +kernel), List.mem_of_getElem? (i := 551) (by decide +kernel), List.mem_of_getElem? (i := 552) (by decide +kernel)⟩
theorem lw_p24 : lw_okq (⟨"CulpritFinderModel", "work", "()V"⟩, 24) := ⟨⟨by decide +kernel, by decide +kernel⟩, List.mem_of_getElem? (i := 422) (by decide +kernel), List.mem_of_getElem? (i := 567) (by decide +kernel), List.mem_of_getElem? (i := 568) (by decide +kernel)⟩
theorem lw_p25 : lw_okq (⟨"CulpritFinderModel", "ends", "()Z"⟩, 24) := ⟨⟨by decide +kernel, by decide +kernel⟩, List.mem_of_getElem? (i := 422) (by decide +kernel), List.mem_of_getElem? (i := 571) (by decide +kernel), List.mem_of_getElem? (i := 572) (by decide +kernel)⟩
theorem lw_p26 : lw_okq (⟨"CulpritFinderModel", "ask", "(I)I"⟩, 24) := ⟨⟨by decide +kernel, by decide +kernel⟩, List.mem_of_getElem? (i := 422) (by decide +kernel), List.mem_of_getElem? (i := 575) (by decide +kernel), List.mem_of_getElem? (i := 576) (by decide +kernel)⟩
theorem lw_p27 : lw_okq (⟨"CulpritFinderModel", "known", "(II)I"⟩, 24) := ⟨⟨by decide +kernel, by decide +kernel⟩, List.mem_of_getElem? (i := 422) (by decide +kernel), List.mem_of_getElem? (i := 579) (by decide +kernel), List.mem_of_getElem? (i := 580) (by decide +kernel)⟩
theorem lw_p28 : lw_okq (⟨"CulpritFinderModel", "halve", "()Z"⟩, 24) := ⟨⟨by decide +kernel, by decide +kernel⟩, List.mem_of_getElem? (i := 422) (by decide +kernel), List.mem_of_getElem? (i := 583) (by decide +kernel), List.mem_of_getElem? (i := 584) (by decide +kernel)⟩
theorem lw_p29 : lw_okq (⟨"CulpritFinderModel", "middle", "(II)I"⟩, 24) := ⟨⟨by decide +kernel, by decide +kernel⟩, List.mem_of_getElem? (i := 422) (by decide +kernel), List.mem_of_getElem? (i := 587) (by decide +kernel), List.mem_of_getElem? (i := 588) (by decide +kernel)⟩
theorem lw_p30 : lw_okq (⟨"CulpritFinderModel", "weightOf", "(I)I"⟩, 24) := ⟨⟨by decide +kernel, by decide +kernel⟩, List.mem_of_getElem? (i := 422) (by decide +kernel), List.mem_of_getElem? (i := 594) (by decide +kernel), List.mem_of_getElem? (i := 595) (by decide +kernel)⟩
theorem lw_p31 : lw_okq (⟨"CulpritFinderModel", "reduce", "()V"⟩, 24) := ⟨⟨by decide +kernel, by decide +kernel⟩, List.mem_of_getElem? (i := 422) (by decide +kernel), List.mem_of_getElem? (i := 598) (by decide +kernel), List.mem_of_getElem? (i := 599) (by decide +kernel)⟩
def lw_privs_2 : List (MethodName × Nat) := [(⟨"CulpritFinderModel", "load", "(I)V"⟩, 24), (⟨"CulpritFinderModel", "run", "(I)I"⟩, 24), (⟨"CulpritFinderModel", "isBuildable", "()Z"⟩, 24), (⟨"CulpritFinderModel", "operation", "(I)I"⟩, 24), (⟨"CulpritFinderModel", "a", "(I)I"⟩, 24), (⟨"CulpritFinderModel", "isSet", "(II)Z"⟩, 24), (⟨"CulpritFinderModel", "b", "(I)I"⟩, 24), (⟨"CulpritFinderModel", "pairs", "()Z"⟩, 24), (⟨"CulpritFinderModel", "work", "()V"⟩, 24), (⟨"CulpritFinderModel", "ends", "()Z"⟩, 24), (⟨"CulpritFinderModel", "ask", "(I)I"⟩, 24), (⟨"CulpritFinderModel", "known", "(II)I"⟩, 24), (⟨"CulpritFinderModel", "halve", "()Z"⟩, 24), (⟨"CulpritFinderModel", "middle", "(II)I"⟩, 24), (⟨"CulpritFinderModel", "weightOf", "(I)I"⟩, 24), (⟨"CulpritFinderModel", "reduce", "()V"⟩, 24)]
theorem lw_r2 : ∀ q ∈ lw_privs_2, lw_okq q := List.forall_mem_cons.mpr ⟨lw_p16, List.forall_mem_cons.mpr ⟨lw_p17, List.forall_mem_cons.mpr ⟨lw_p18, List.forall_mem_cons.mpr ⟨lw_p19, List.forall_mem_cons.mpr ⟨lw_p20, List.forall_mem_cons.mpr ⟨lw_p21, List.forall_mem_cons.mpr ⟨lw_p22, List.forall_mem_cons.mpr ⟨lw_p23, List.forall_mem_cons.mpr ⟨lw_p24, List.forall_mem_cons.mpr ⟨lw_p25, List.forall_mem_cons.mpr ⟨lw_p26, List.forall_mem_cons.mpr ⟨lw_p27, List.forall_mem_cons.mpr ⟨lw_p28, List.forall_mem_cons.mpr ⟨lw_p29, List.forall_mem_cons.mpr ⟨lw_p30, List.forall_mem_cons.mpr ⟨lw_p31, fun _ h => absurd h List.not_mem_nil⟩⟩⟩⟩⟩⟩⟩⟩⟩⟩⟩⟩⟩⟩⟩⟩
theorem lw_p32 : lw_okq (⟨"CulpritFinderModel", "failing", "(IZI)I"⟩, 24) := ⟨⟨by decide +kernel, by decide +kernel⟩, List.mem_of_getElem? (i := 422) (by decide +kernel), List.mem_of_getElem? (i := 602) (by decide +kernel), List.mem_of_getElem? (i := 603) (by decide +kernel)⟩
theorem lw_p33 : lw_okq (⟨"CulpritFinderModel", "askSet", "(II)I"⟩, 24) := ⟨⟨by decide +kernel, by decide +kernel⟩, List.mem_of_getElem? (i := 422) (by decide +kernel), List.mem_of_getElem? (i := 609) (by decide +kernel), List.mem_of_getElem? (i := 610) (by decide +kernel)⟩
theorem lw_p34 : lw_okq (⟨"CulpritFinderModel", "judge", "(I)I"⟩, 24) := ⟨⟨by decide +kernel, by decide +kernel⟩, List.mem_of_getElem? (i := 422) (by decide +kernel), List.mem_of_getElem? (i := 621) (by decide +kernel), List.mem_of_getElem? (i := 622) (by decide +kernel)⟩
def lw_privs_3 : List (MethodName × Nat) := [(⟨"CulpritFinderModel", "failing", "(IZI)I"⟩, 24), (⟨"CulpritFinderModel", "askSet", "(II)I"⟩, 24), (⟨"CulpritFinderModel", "judge", "(I)I"⟩, 24)]
theorem lw_r3 : ∀ q ∈ lw_privs_3, lw_okq q := List.forall_mem_cons.mpr ⟨lw_p32, List.forall_mem_cons.mpr ⟨lw_p33, List.forall_mem_cons.mpr ⟨lw_p34, fun _ h => absurd h List.not_mem_nil⟩⟩⟩
def lw_privs : List (MethodName × Nat) := lw_privs_1 ++ (lw_privs_2 ++ (lw_privs_3))
def lw_tbl : List Cond := k2_sels lw_privs ++ tables_1
theorem lw_privs_ok : ∀ q ∈ lw_privs, lw_okq q := by
  show ∀ q ∈ lw_privs_1 ++ (lw_privs_2 ++ (lw_privs_3)), lw_okq q
  exact List.forall_mem_append.mpr ⟨lw_r1, List.forall_mem_append.mpr ⟨lw_r2, lw_r3⟩⟩
def cf_T0 : u_T := fun k => match k with
  | 0 => ("CulpritFinder$History", "firstParents", "[I", true)
  | 1 => ("CulpritFinder$History", "ancestors", "[I", true)
  | 2 => ("CulpritFinder$History", "codes", "[I", true)
  | 3 => ("CulpritFinder$History", "parents", "I", false)
  | _ => ("CulpritFinder$History", "size", "I", false)
def cf_y0 : Nat → FieldType := fun k => match k with
  | 0 => .array .int
  | 1 => .array .int
  | 2 => .array .int
  | 3 => .int
  | _ => .int
theorem cf_nm0 : ∀ a, a < 5 → ∀ b, b < 5 → a ≠ b → (cf_T0 a).2.1 ≠ (cf_T0 b).2.1 := by decide +kernel
theorem cf_ty0 : ∀ k, k < 5 → parseFieldDescriptor (cf_T0 k).2.2.1 = some (cf_y0 k) := by decide +kernel
def cf_T1 : u_T := fun k => match k with
  | 0 => ("CulpritFinder$Machine", "codes", "[I", true)
  | 1 => ("CulpritFinder$Machine", "partners", "[I", true)
  | 2 => ("CulpritFinder$Machine", "openLines", "[I", true)
  | _ => ("CulpritFinder$Machine", "variables", "[I", true)
def cf_y1 : Nat → FieldType := fun k => match k with
  | 0 => .array .int
  | 1 => .array .int
  | 2 => .array .int
  | _ => .array .int
theorem cf_nm1 : ∀ a, a < 4 → ∀ b, b < 4 → a ≠ b → (cf_T1 a).2.1 ≠ (cf_T1 b).2.1 := by decide +kernel
theorem cf_ty1 : ∀ k, k < 4 → parseFieldDescriptor (cf_T1 k).2.2.1 = some (cf_y1 k) := by decide +kernel
def cf_T2 : u_T := fun k => match k with
  | 0 => ("CulpritFinder$Reduction", "verdicts", "[I", true)
  | 1 => ("CulpritFinder$Reduction", "set", "I", false)
  | _ => ("CulpritFinder$Reduction", "pieces", "I", false)
def cf_y2 : Nat → FieldType := fun k => match k with
  | 0 => .array .int
  | 1 => .int
  | _ => .int
theorem cf_nm2 : ∀ a, a < 3 → ∀ b, b < 3 → a ≠ b → (cf_T2 a).2.1 ≠ (cf_T2 b).2.1 := by decide +kernel
theorem cf_ty2 : ∀ k, k < 3 → parseFieldDescriptor (cf_T2 k).2.2.1 = some (cf_y2 k) := by decide +kernel
def cf_T3 : u_T := fun k => match k with
  | 0 => ("CulpritFinder$Search", "history", "LCulpritFinder$History;", true)
  | 1 => ("CulpritFinder$Search", "machine", "LCulpritFinder$Machine;", true)
  | 2 => ("CulpritFinder$Search", "reduction", "LCulpritFinder$Reduction;", true)
  | 3 => ("CulpritFinder$Search", "journal", "[I", true)
  | 4 => ("CulpritFinder$Search", "verdicts", "[I", true)
  | 5 => ("CulpritFinder$Search", "journalLength", "I", false)
  | 6 => ("CulpritFinder$Search", "stage", "I", false)
  | 7 => ("CulpritFinder$Search", "good", "I", false)
  | 8 => ("CulpritFinder$Search", "bad", "I", false)
  | 9 => ("CulpritFinder$Search", "input", "I", false)
  | 10 => ("CulpritFinder$Search", "lastFailed", "I", false)
  | 11 => ("CulpritFinder$Search", "cleared", "I", false)
  | 12 => ("CulpritFinder$Search", "suspects", "I", false)
  | 13 => ("CulpritFinder$Search", "culprit", "I", false)
  | 14 => ("CulpritFinder$Search", "upcoming", "I", false)
  | 15 => ("CulpritFinder$Search", "testRuns", "Z", false)
  | _ => ("CulpritFinder$Search", "startedTests", "I", false)
def cf_y3 : Nat → FieldType := fun k => match k with
  | 0 => .object "CulpritFinder$History"
  | 1 => .object "CulpritFinder$Machine"
  | 2 => .object "CulpritFinder$Reduction"
  | 3 => .array .int
  | 4 => .array .int
  | 5 => .int
  | 6 => .int
  | 7 => .int
  | 8 => .int
  | 9 => .int
  | 10 => .int
  | 11 => .int
  | 12 => .int
  | 13 => .int
  | 14 => .int
  | 15 => .boolean
  | _ => .int
theorem cf_nm3 : ∀ a, a < 17 → ∀ b, b < 17 → a ≠ b → (cf_T3 a).2.1 ≠ (cf_T3 b).2.1 := by decide +kernel
theorem cf_ty3 : ∀ k, k < 17 → parseFieldDescriptor (cf_T3 k).2.2.1 = some (cf_y3 k) := by decide +kernel
def cf_T4 : u_T := fun k => match k with
  | 0 => ("CulpritFinder", "history", "LCulpritFinder$History;", true)
  | 1 => ("CulpritFinder", "machine", "LCulpritFinder$Machine;", true)
  | _ => ("CulpritFinder", "search", "LCulpritFinder$Search;", true)
def cf_y4 : Nat → FieldType := fun k => match k with
  | 0 => .object "CulpritFinder$History"
  | 1 => .object "CulpritFinder$Machine"
  | _ => .object "CulpritFinder$Search"
theorem cf_nm4 : ∀ a, a < 3 → ∀ b, b < 3 → a ≠ b → (cf_T4 a).2.1 ≠ (cf_T4 b).2.1 := by decide +kernel
theorem cf_ty4 : ∀ k, k < 3 → parseFieldDescriptor (cf_T4 k).2.2.1 = some (cf_y4 k) := by decide +kernel
def cf_T5 : u_T := fun k => match k with
  | 0 => ("CulpritFinderModel", "commits", "I", false)
  | 1 => ("CulpritFinderModel", "first", "[I", false)
  | 2 => ("CulpritFinderModel", "second", "[I", false)
  | 3 => ("CulpritFinderModel", "lines", "[I", false)
  | 4 => ("CulpritFinderModel", "above", "[I", false)
  | 5 => ("CulpritFinderModel", "searching", "Z", false)
  | 6 => ("CulpritFinderModel", "good", "I", false)
  | 7 => ("CulpritFinderModel", "bad", "I", false)
  | 8 => ("CulpritFinderModel", "input", "I", false)
  | 9 => ("CulpritFinderModel", "running", "Z", false)
  | 10 => ("CulpritFinderModel", "started", "I", false)
  | 11 => ("CulpritFinderModel", "many", "I", false)
  | 12 => ("CulpritFinderModel", "test", "[I", false)
  | 13 => ("CulpritFinderModel", "verdict", "[I", false)
  | 14 => ("CulpritFinderModel", "program", "[I", false)
  | 15 => ("CulpritFinderModel", "pair", "[I", false)
  | 16 => ("CulpritFinderModel", "open", "[I", false)
  | 17 => ("CulpritFinderModel", "value", "[I", false)
  | 18 => ("CulpritFinderModel", "state", "I", false)
  | 19 => ("CulpritFinderModel", "next", "I", false)
  | 20 => ("CulpritFinderModel", "suspects", "I", false)
  | 21 => ("CulpritFinderModel", "culprit", "I", false)
  | 22 => ("CulpritFinderModel", "set", "I", false)
  | _ => ("CulpritFinderModel", "at", "I", false)
def cf_y5 : Nat → FieldType := fun k => match k with
  | 0 => .int
  | 1 => .array .int
  | 2 => .array .int
  | 3 => .array .int
  | 4 => .array .int
  | 5 => .boolean
  | 6 => .int
  | 7 => .int
  | 8 => .int
  | 9 => .boolean
  | 10 => .int
  | 11 => .int
  | 12 => .array .int
  | 13 => .array .int
  | 14 => .array .int
  | 15 => .array .int
  | 16 => .array .int
  | 17 => .array .int
  | 18 => .int
  | 19 => .int
  | 20 => .int
  | 21 => .int
  | 22 => .int
  | _ => .int
theorem cf_nm5 : ∀ a, a < 24 → ∀ b, b < 24 → a ≠ b → (cf_T5 a).2.1 ≠ (cf_T5 b).2.1 := by decide +kernel
theorem cf_ty5 : ∀ k, k < 24 → parseFieldDescriptor (cf_T5 k).2.2.1 = some (cf_y5 k) := by decide +kernel
def cf_cls : List vw_C := [("CulpritFinder$History", cf_T0, 5), ("CulpritFinder$Machine", cf_T1, 4), ("CulpritFinder$Reduction", cf_T2, 3), ("CulpritFinder$Search", cf_T3, 17), ("CulpritFinder", cf_T4, 3), ("CulpritFinderModel", cf_T5, 24)]
end
section
/-! The reflected machine: a configuration is (pc, locals, stack, world of 26 cells); a row is what an instruction does to it.
    'cf_Runs T c q': by the rows T the configuration c comes to the answer q. cf_Ct: a method's contract over the one world. -/
abbrev cf_AV : Type := Int32 ⊕ Nat
abbrev cf_Wd : Type := Nat → Nat → Int32
abbrev cf_Cfg : Type := Nat × (List (Option cf_AV) × (List cf_AV × cf_Wd))
abbrev cf_Rs : Type := Option cf_AV × cf_Wd
abbrev cf_Rw : Type := List (Option cf_AV) → List cf_AV → cf_Wd → Option (cf_Cfg ⊕ cf_Rs)
/-- the world w with the cell k's numbers f -/
def cf_wa (w : cf_Wd) (k : Nat) (f : Nat → Int32) : cf_Wd := fun j => if j = k then f else w j
theorem cf_wa_s (w : cf_Wd) (k : Nat) (f : Nat → Int32) : cf_wa w k f k = f := if_pos rfl
theorem cf_wa_n (w : cf_Wd) {k j : Nat} (f : Nat → Int32) (h : j ≠ k) : cf_wa w k f j = w j := if_neg h
/-! runs -/
def cf_Runs (T : Nat → cf_Rw) (c : cf_Cfg) (q : cf_Rs) : Prop :=
  ∀ V : cf_Cfg → Prop, (∀ a b : cf_Cfg, T a.1 a.2.1 a.2.2.1 a.2.2.2 = some (.inl b) → V b → V a) → (∀ a : cf_Cfg, T a.1 a.2.1 a.2.2.1 a.2.2.2 = some (.inr q) → V a) → V c
def cf_st (T : Nat → cf_Rw) (a : cf_Cfg) : Option (cf_Cfg ⊕ cf_Rs) := T a.1 a.2.1 a.2.2.1 a.2.2.2
def cf_stn (T : Nat → cf_Rw) : Nat → cf_Cfg → Option cf_Cfg
  | 0, a => some a
  | n + 1, a => match cf_st T a with
    | some (.inl b) => cf_stn T n b
    | _ => none
theorem cf_Runs.one {T : Nat → cf_Rw} {a b : cf_Cfg} {q : cf_Rs} (h : cf_st T a = some (.inl b)) (k : cf_Runs T b q) : cf_Runs T a q := fun V h1 h2 => h1 a b h (k V h1 h2)
theorem cf_Runs.fin {T : Nat → cf_Rw} {a : cf_Cfg} {q : cf_Rs} (h : cf_st T a = some (.inr q)) : cf_Runs T a q := fun _ _ h2 => h2 a h
theorem cf_Runs.n {T : Nat → cf_Rw} (n : Nat) : ∀ {a b : cf_Cfg} {q : cf_Rs}, cf_stn T n a = some b → cf_Runs T b q → cf_Runs T a q := by
  induction n with
  | zero =>
    intro a b q h k
    have e : a = b := Option.some.inj h
    subst e
    exact k
  | succ n ih =>
    intro a b q h k
    have h' : (match cf_st T a with | some (.inl b) => cf_stn T n b | _ => none) = some b := h
    cases hs : cf_st T a with
    | none => rw [hs] at h'; cases h'
    | some o =>
      cases o with
      | inl c => rw [hs] at h'; exact cf_Runs.one hs (ih h' k)
      | inr r => rw [hs] at h'; cases h'
theorem cf_Runs.br {T : Nat → cf_Rw} {a b1 b2 : cf_Cfg} {q : cf_Rs} {c : Prop} [inst : Decidable c] (h : cf_st T a = some (.inl (if c then b1 else b2))) (k1 : c → cf_Runs T b1 q) (k2 : ¬ c → cf_Runs T b2 q) : cf_Runs T a q := by
  by_cases hc : c
  · rw [if_pos hc] at h; exact cf_Runs.one h (k1 hc)
  · rw [if_neg hc] at h; exact cf_Runs.one h (k2 hc)
theorem cf_Runs.gd {T : Nat → cf_Rw} {a b : cf_Cfg} {q : cf_Rs} {g : Bool} (h : cf_st T a = bif g then some (.inl b) else none) (hg : g = true) (k : cf_Runs T b q) : cf_Runs T a q := by
  rw [hg] at h; exact cf_Runs.one h k
/-! the rows -/
def cf_in (i : Int32) (n : Nat) : Bool := decide (0 ≤ i.toInt) && decide (i.toInt < (n : Int))
theorem cf_in_vp {i : Int32} {n : Nat} (h : cf_in i n = true) : vp_in i n := by
  unfold cf_in at h
  rw [Bool.and_eq_true, decide_eq_true_eq, decide_eq_true_eq] at h
  exact vp_in_iff.mpr h
theorem cf_in_nI {j n : Nat} (h : j < n) (hn : n < 2 ^ 31) : cf_in (nI j) n = true := by
  unfold cf_in
  rw [nI_toInt (Nat.lt_trans h hn), Bool.and_eq_true, decide_eq_true_eq, decide_eq_true_eq]
  omega
def cf_const (x : Int32) (nx : Nat) : cf_Rw := fun L st w => some (.inl (nx, L, .inl x :: st, w))
def cf_iload (i nx : Nat) : cf_Rw := fun L st w => match L[i]? with
  | some (some (.inl x)) => some (.inl (nx, L, .inl x :: st, w))
  | _ => none
def cf_aload (i nx : Nat) : cf_Rw := fun L st w => match L[i]? with
  | some (some (.inr a)) => some (.inl (nx, L, .inr a :: st, w))
  | _ => none
def cf_istore (i nx : Nat) : cf_Rw := fun L st w => match st with
  | .inl x :: r => some (.inl (nx, L.set i (some (.inl x)), r, w))
  | _ => none
def cf_iinc (i : Nat) (k : Int32) (nx : Nat) : cf_Rw := fun L st w => match L[i]? with
  | some (some (.inl x)) => some (.inl (nx, L.set i (some (.inl (x + k))), st, w))
  | _ => none
def cf_bin (f : Int32 → Int32 → Int32) (nx : Nat) : cf_Rw := fun L st w => match st with
  | .inl y :: .inl x :: r => some (.inl (nx, L, .inl (f x y) :: r, w))
  | _ => none
def cf_div (nx : Nat) : cf_Rw := fun L st w => match st with
  | .inl y :: .inl x :: r => bif !(y == 0) then some (.inl (nx, L, .inl (x / y) :: r, w)) else none
  | _ => none
def cf_rem (nx : Nat) : cf_Rw := fun L st w => match st with
  | .inl y :: .inl x :: r => bif !(y == 0) then some (.inl (nx, L, .inl (x - x / y * y) :: r, w)) else none
  | _ => none
def cf_dup (nx : Nat) : cf_Rw := fun L st w => match st with
  | v :: r => some (.inl (nx, L, v :: v :: r, w))
  | _ => none
def cf_dup2 (nx : Nat) : cf_Rw := fun L st w => match st with
  | v :: u :: r => some (.inl (nx, L, v :: u :: v :: u :: r, w))
  | _ => none
def cf_goto (t : Nat) : cf_Rw := fun L st w => some (.inl (t, L, st, w))
def cf_ifeq (t nx : Nat) : cf_Rw := fun L st w => match st with
  | .inl x :: r => some (.inl (if x = 0 then (t, L, r, w) else (nx, L, r, w)))
  | _ => none
def cf_ifne (t nx : Nat) : cf_Rw := fun L st w => match st with
  | .inl x :: r => some (.inl (if ¬ x = 0 then (t, L, r, w) else (nx, L, r, w)))
  | _ => none
def cf_iflt (t nx : Nat) : cf_Rw := fun L st w => match st with
  | .inl x :: r => some (.inl (if x < 0 then (t, L, r, w) else (nx, L, r, w)))
  | _ => none
def cf_ifge (t nx : Nat) : cf_Rw := fun L st w => match st with
  | .inl x :: r => some (.inl (if 0 ≤ x then (t, L, r, w) else (nx, L, r, w)))
  | _ => none
def cf_ifgt (t nx : Nat) : cf_Rw := fun L st w => match st with
  | .inl x :: r => some (.inl (if 0 < x then (t, L, r, w) else (nx, L, r, w)))
  | _ => none
def cf_ifle (t nx : Nat) : cf_Rw := fun L st w => match st with
  | .inl x :: r => some (.inl (if x ≤ 0 then (t, L, r, w) else (nx, L, r, w)))
  | _ => none
def cf_iceq (t nx : Nat) : cf_Rw := fun L st w => match st with
  | .inl y :: .inl x :: r => some (.inl (if x = y then (t, L, r, w) else (nx, L, r, w)))
  | _ => none
def cf_icne (t nx : Nat) : cf_Rw := fun L st w => match st with
  | .inl y :: .inl x :: r => some (.inl (if ¬ x = y then (t, L, r, w) else (nx, L, r, w)))
  | _ => none
def cf_iclt (t nx : Nat) : cf_Rw := fun L st w => match st with
  | .inl y :: .inl x :: r => some (.inl (if x < y then (t, L, r, w) else (nx, L, r, w)))
  | _ => none
def cf_icge (t nx : Nat) : cf_Rw := fun L st w => match st with
  | .inl y :: .inl x :: r => some (.inl (if y ≤ x then (t, L, r, w) else (nx, L, r, w)))
  | _ => none
def cf_icgt (t nx : Nat) : cf_Rw := fun L st w => match st with
  | .inl y :: .inl x :: r => some (.inl (if y < x then (t, L, r, w) else (nx, L, r, w)))
  | _ => none
def cf_icle (t nx : Nat) : cf_Rw := fun L st w => match st with
  | .inl y :: .inl x :: r => some (.inl (if x ≤ y then (t, L, r, w) else (nx, L, r, w)))
  | _ => none
/-- the shape of the 26 cells: the length of a row of ints, or the place of its kind among cf_cls and its fields (some t: a reference to the cell t; none: an int) -/
def cf_shp : Nat → Nat ⊕ (Nat × List (Option Nat))
  | 0 => .inr (4, [some 1, some 5, some 10])
  | 1 => .inr (0, [some 2, some 3, some 4, none, none])
  | 2 => .inl 14
  | 3 => .inl 14
  | 4 => .inl 112
  | 5 => .inr (1, [some 6, some 7, some 8, some 9])
  | 6 => .inl 8
  | 7 => .inl 8
  | 8 => .inl 8
  | 9 => .inl 10
  | 10 => .inr (3, [some 1, some 5, some 11, some 13, some 14, none, none, none, none, none, none, none, none, none, none, none, none])
  | 11 => .inr (2, [some 12, none, none])
  | 12 => .inl 256
  | 13 => .inl 270
  | 14 => .inl 14
  | 15 => .inr (5, [none, some 16, some 17, some 18, some 19, none, none, none, none, none, none, none, some 20, some 21, some 22, some 23, some 24, some 25, none, none, none, none, none, none])
  | 16 => .inl 14
  | 17 => .inl 14
  | 18 => .inl 112
  | 19 => .inl 14
  | 20 => .inl 600
  | 21 => .inl 600
  | 22 => .inl 8
  | 23 => .inl 8
  | 24 => .inl 8
  | 25 => .inl 10
  | _ => .inl 0
def cf_get (ci j nx : Nat) : cf_Rw := fun L st w => match st with
  | .inr k :: r => match cf_shp k with
    | .inr (ci', fs) => bif Nat.beq ci' ci then (match fs[j]? with
      | some none => some (.inl (nx, L, .inl (w k j) :: r, w))
      | some (some t) => some (.inl (nx, L, .inr t :: r, w))
      | none => none) else none
    | .inl _ => none
  | _ => none
def cf_put (ci j nx : Nat) : cf_Rw := fun L st w => match st with
  | .inl x :: .inr k :: r => match cf_shp k with
    | .inr (ci', fs) => bif Nat.beq ci' ci then (match fs[j]? with
      | some none => some (.inl (nx, L, r, cf_wa w k (upd (w k) j x)))
      | _ => none) else none
    | .inl _ => none
  | _ => none
def cf_putz (ci j nx : Nat) : cf_Rw := fun L st w => match st with
  | .inl x :: .inr k :: r => match cf_shp k with
    | .inr (ci', fs) => bif Nat.beq ci' ci then (match fs[j]? with
      | some none => bif (x == 0 || x == 1) then some (.inl (nx, L, r, cf_wa w k (upd (w k) j x))) else none
      | _ => none) else none
    | .inl _ => none
  | _ => none
def cf_iald (nx : Nat) : cf_Rw := fun L st w => match st with
  | .inl i :: .inr k :: r => match cf_shp k with
    | .inl n => bif cf_in i n then some (.inl (nx, L, .inl (w k i.toNatClampNeg) :: r, w)) else none
    | .inr _ => none
  | _ => none
def cf_iast (nx : Nat) : cf_Rw := fun L st w => match st with
  | .inl x :: .inl i :: .inr k :: r => match cf_shp k with
    | .inl n => bif cf_in i n then some (.inl (nx, L, r, cf_wa w k (upd (w k) i.toNatClampNeg x))) else none
    | .inr _ => none
  | _ => none
def cf_alen (nx : Nat) : cf_Rw := fun L st w => match st with
  | .inr k :: r => match cf_shp k with
    | .inl n => bif Nat.blt k 26 then some (.inl (nx, L, .inl (nI n) :: r, w)) else none
    | .inr _ => none
  | _ => none
def cf_tsw (lo hi : Int) (dflt : Nat) (tg : List Nat) : cf_Rw := fun L st w => match st with
  | .inl x :: r => some (.inl ((if x.toInt < lo ∨ hi < x.toInt then dflt else tg.getD (x.toInt - lo).toNat 0), L, r, w))
  | _ => none
def cf_iret : cf_Rw := fun _ st w => match st with
  | [.inl x] => some (.inr (some (.inl x), w))
  | _ => none
def cf_vret : cf_Rw := fun _ st w => match st with
  | [] => some (.inr (none, w))
  | _ => none
/-- a call of n values (the receiver among them): F says what it does -/
def cf_call (n : Nat) (F : List cf_AV → cf_Wd → Option cf_Rs) (nx : Nat) : cf_Rw := fun L st w => bif Nat.ble (st.drop n).length 8 then (match F (st.take n).reverse w with
  | some q => some (.inl (nx, L, q.1.toList ++ st.drop n, q.2))
  | none => none) else none
def cf_cpy (nx : Nat) : cf_Rw := fun L st w => match st with
  | .inl n :: .inl dp :: .inr k :: .inl sp :: .inr k0 :: r => match cf_shp k, cf_shp k0 with
    | .inl N, .inl N0 => bif (decide (0 ≤ n.toInt) && decide (0 ≤ dp.toInt) && decide (0 ≤ sp.toInt) && decide (sp.toInt + n.toInt ≤ (N0 : Int)) && decide (dp.toInt + n.toInt ≤ (N : Int)) && Nat.ble r.length 8 && Nat.blt k 26 && Nat.blt k0 26) then some (.inl (nx, L, r, cf_wa w k (va_cpy (w k0) (w k) sp.toNatClampNeg dp.toNatClampNeg n.toNatClampNeg))) else none
    | _, _ => none
  | _ => none
def cf_stuck : cf_Rw := fun _ _ _ => none
end
section
/-! the world of 26 cells as the kit has it; a method's context; what it is that a row is sound -/
def cf_v (ad : Nat → Nat) : cf_AV → Value
  | .inl x => .int x
  | .inr k => .ref (ad k)
theorem cf_v_cat (ad : Nat → Nat) (a : cf_AV) : (cf_v ad a).category = 1 := by cases a <;> rfl
def cf_fv (ad : Nat → Nat) (f : Nat → Int32) : Nat → List (Option Nat) → List Value
  | _, [] => []
  | k, none :: r => .int (f k) :: cf_fv ad f (k + 1) r
  | k, some t :: r => .ref (ad t) :: cf_fv ad f (k + 1) r
theorem cf_fv_len (ad : Nat → Nat) (f : Nat → Int32) : ∀ (fs : List (Option Nat)) (i : Nat), (cf_fv ad f i fs).length = fs.length := by
  intro fs
  induction fs with
  | nil => intro i; rfl
  | cons a r ih => intro i; cases a <;> simp [cf_fv, ih]
theorem cf_fv_int (ad : Nat → Nat) (f : Nat → Int32) : ∀ (fs : List (Option Nat)) (i j : Nat), fs[j]? = some none → (cf_fv ad f i fs)[j]? = some (.int (f (i + j))) := by
  intro fs
  induction fs with
  | nil => intro i j h; simp at h
  | cons a r ih =>
    intro i j h
    cases j with
    | zero =>
      have e : a = none := by simpa using h
      subst e
      simp [cf_fv]
    | succ j =>
      have h' : r[j]? = some none := by simpa using h
      have e := ih (i + 1) j h'
      cases a <;> simp only [cf_fv, List.getElem?_cons_succ] <;> rw [e] <;> congr 3 <;> omega
theorem cf_fv_ref (ad : Nat → Nat) (f : Nat → Int32) {t : Nat} : ∀ (fs : List (Option Nat)) (i j : Nat), fs[j]? = some (some t) → (cf_fv ad f i fs)[j]? = some (.ref (ad t)) := by
  intro fs
  induction fs with
  | nil => intro i j h; simp at h
  | cons a r ih =>
    intro i j h
    cases j with
    | zero =>
      have e : a = some t := by simpa using h
      subst e
      simp [cf_fv]
    | succ j =>
      have h' : r[j]? = some (some t) := by simpa using h
      have e := ih (i + 1) j h'
      cases a <;> simp only [cf_fv, List.getElem?_cons_succ] <;> rw [e]
theorem cf_fv_congr (ad : Nat → Nat) {f g : Nat → Int32} : ∀ (fs : List (Option Nat)) (i : Nat), (∀ q, i ≤ q → f q = g q) → cf_fv ad f i fs = cf_fv ad g i fs := by
  intro fs
  induction fs with
  | nil => intro i h; rfl
  | cons a r ih =>
    intro i h
    have e := ih (i + 1) (fun q hq => h q (by omega))
    cases a with
    | none => simp only [cf_fv]; rw [h i (Nat.le_refl i), e]
    | some t => simp only [cf_fv]; rw [e]
theorem cf_us0 (f : Nat → Int32) (i : Nat) (x : Int32) : upd f (i + 0) x i = x := by simp [upd]
theorem cf_fv_set (ad : Nat → Nat) (x : Int32) : ∀ (fs : List (Option Nat)) (f : Nat → Int32) (i j : Nat), fs[j]? = some none → (cf_fv ad f i fs).set j (.int x) = cf_fv ad (upd f (i + j) x) i fs := by
  intro fs
  induction fs with
  | nil => intro f i j h; simp at h
  | cons a r ih =>
    intro f i j h
    cases j with
    | zero =>
      have e : a = none := by simpa using h
      subst e
      have e2 : cf_fv ad f (i + 1) r = cf_fv ad (upd f (i + 0) x) (i + 1) r := cf_fv_congr ad r (i + 1) (fun q hq => by rw [pk_un (by omega)])
      simp only [cf_fv, List.set_cons_zero]
      rw [e2, cf_us0 f i x]
    | succ j =>
      have h' : r[j]? = some none := by simpa using h
      have e := ih f (i + 1) j h'
      have e3 : i + 1 + j = i + (j + 1) := by omega
      rw [e3] at e
      cases a with
      | none =>
        simp only [cf_fv, List.set_cons_succ]
        rw [e, pk_un (f := f) (k := i + (j + 1)) (j := i) (x := x) (by omega)]
      | some t =>
        simp only [cf_fv, List.set_cons_succ]
        rw [e]
def cf_cel (cA : ClassId) (ad : Nat → Nat) (w : cf_Wd) (k : Nat) : va_E := match cf_shp k with
  | .inl n => .inl (cA, n, .inl (w k))
  | .inr q => .inr (q.1, cf_fv ad (w k) 0 q.2)
def cf_ws (cA : ClassId) (ad : Nat → Nat) (w : cf_Wd) : va_W := (List.range 26).map (fun k => (ad k, cf_cel cA ad w k))
theorem cf_ws_at (cA : ClassId) (ad : Nat → Nat) (w : cf_Wd) (j : Nat) : (cf_ws cA ad w)[j]? = if j < 26 then some (ad j, cf_cel cA ad w j) else none := by
  unfold cf_ws
  rw [List.getElem?_map]
  by_cases h : j < 26
  · rw [List.getElem?_range h, if_pos h]; rfl
  · rw [if_neg h, List.getElem?_eq_none (by simpa using Nat.not_lt.mp h)]; rfl
theorem cf_cel_a {cA : ClassId} {ad : Nat → Nat} {w : cf_Wd} {k n : Nat} (h : cf_shp k = .inl n) : cf_cel cA ad w k = .inl (cA, n, .inl (w k)) := by unfold cf_cel; rw [h]
theorem cf_cel_o {cA : ClassId} {ad : Nat → Nat} {w : cf_Wd} {k : Nat} {q : Nat × List (Option Nat)} (h : cf_shp k = .inr q) : cf_cel cA ad w k = .inr (q.1, cf_fv ad (w k) 0 q.2) := by unfold cf_cel; rw [h]
theorem cf_cel_n {cA : ClassId} {ad : Nat → Nat} {w : cf_Wd} {k j : Nat} (f : Nat → Int32) (h : j ≠ k) : cf_cel cA ad (cf_wa w k f) j = cf_cel cA ad w j := by
  unfold cf_cel; rw [cf_wa_n w f h]
theorem cf_ws_set {cA : ClassId} {ad : Nat → Nat} {w : cf_Wd} {k : Nat} {f : Nat → Int32} {E : va_E} (hE : E = cf_cel cA ad (cf_wa w k f) k) : (cf_ws cA ad w).set k (ad k, E) = cf_ws cA ad (cf_wa w k f) := by
  apply List.ext_getElem?
  intro j
  rw [List.getElem?_set, cf_ws_at, cf_ws_at]
  have hlen : (cf_ws cA ad w).length = 26 := by simp [cf_ws]
  by_cases hj : k = j
  · subst hj
    by_cases h26 : k < 26
    · simp [hlen, h26, hE]
    · simp [hlen, h26]
  · rw [if_neg hj]
    by_cases h26 : j < 26
    · rw [if_pos h26, if_pos h26, cf_cel_n f (fun e => hj e.symm)]
    · rw [if_neg h26, if_neg h26]
theorem cf_set_a {cA : ClassId} {ad : Nat → Nat} {w : cf_Wd} {k n : Nat} (f : Nat → Int32) (h : cf_shp k = .inl n) : (cf_ws cA ad w).set k (ad k, .inl (cA, n, .inl f)) = cf_ws cA ad (cf_wa w k f) :=
  cf_ws_set (by rw [cf_cel_a h, cf_wa_s])
theorem cf_set_o {cA : ClassId} {ad : Nat → Nat} {w : cf_Wd} {k j : Nat} {q : Nat × List (Option Nat)} (x : Int32) (h : cf_shp k = .inr q) (hj : q.2[j]? = some none) : (cf_ws cA ad w).set k (ad k, .inr (q.1, (cf_fv ad (w k) 0 q.2).set j (.int x))) = cf_ws cA ad (cf_wa w k (upd (w k) j x)) :=
  cf_ws_set (by rw [cf_cel_o h, cf_wa_s, cf_fv_set ad x q.2 (w k) 0 j hj, Nat.zero_add])
theorem cf_shp_o {k : Nat} {q : Nat × List (Option Nat)} (h : cf_shp k = .inr q) : k < 26 := by
  by_cases hk : k < 26
  · exact hk
  · exfalso
    obtain ⟨j, rfl⟩ : ∃ j, k = j + 26 := ⟨k - 26, by omega⟩
    simp [cf_shp] at h
theorem cf_shp_a {k n : Nat} (h : cf_shp k = .inl n) (hn : 0 < n) : k < 26 := by
  by_cases hk : k < 26
  · exact hk
  · exfalso
    obtain ⟨j, rfl⟩ : ∃ j, k = j + 26 := ⟨k - 26, by omega⟩
    have e : (0 : Nat) = n := by simpa [cf_shp] using h
    omega
/-- the addresses are apart, and of the kind A -/
def cf_D (A : Nat → Prop) (ad : Nat → Nat) : Prop := (∀ i j, i < 26 → j < 26 → ad i = ad j → i = j) ∧ ∀ k, k < 26 → A (ad k)
theorem cf_D.va {A : Nat → Prop} {ad : Nat → Nat} (h : cf_D A ad) (cA : ClassId) (w : cf_Wd) : va_D A (cf_ws cA ad w) := by
  refine ⟨fun i j p q hp hq e => ?_, fun k q hq => ?_⟩
  · rw [cf_ws_at] at hp hq
    by_cases hi : i < 26
    · by_cases hj : j < 26
      · rw [if_pos hi] at hp
        rw [if_pos hj] at hq
        have e1 := Option.some.inj hp
        have e2 := Option.some.inj hq
        rw [← e1, ← e2] at e
        exact h.1 i j hi hj e
      · rw [if_neg hj] at hq; cases hq
    · rw [if_neg hi] at hp; cases hp
  · rw [cf_ws_at] at hq
    by_cases hk : k < 26
    · rw [if_pos hk] at hq
      rw [← Option.some.inj hq]
      exact h.2 k hk
    · rw [if_neg hk] at hq; cases hq
def cf_A (ad : Nat → Nat) : Nat → Prop := fun a => ∃ k, k < 26 ∧ a = ad k
/-! the words of the tables -/
def cf_g : Cond → Bool
  | .fieldLinkNest .. => true
  | .methodLinkNest .. => true
  | w => w.onTables && w.keeps
theorem cf_g_on {w : Cond} (h : cf_g w = true) : w.onTables = true := by
  cases w <;> first | rfl | (simp [cf_g, Cond.onTables] at h; done) | exact (Bool.and_eq_true .. ▸ h).1
def cf_B (U : State) : Prop := ∀ w ∈ lw_tbl, cf_g w = true → va_Nw w U
theorem cf_B.use {U : State} (h : cf_B U) {w : Cond} (hm : w ∈ lw_tbl) (hg : cf_g w = true) (a : Array Value) : w.before a U = true := va_Nw.use (cf_g_on hg) (h w hm hg)
theorem cf_B.same {u U : State} (e : u.vm = U.vm) (h : cf_B u) : cf_B U := fun w hm hg => va_Nw.same (cf_g_on hg) e (h w hm hg)
theorem cf_g_warm {s U : State} (hW : s.WarmedH U.vm) : ∀ {w : Cond}, cf_g w = true → va_Nw w s → va_Nw w U := by
  intro w hg h
  have key : (w.onTables && w.keeps) = true → va_Nw w U := fun hk => word_at hW (Or.inl hk) h
  cases w <;> first | exact va_Nw.warmF hW h | exact va_Nw.warmM hW h | exact key hg
theorem cf_B.warm {s U : State} (hW : s.WarmedH U.vm) (h : cf_B s) : cf_B U := fun w hm hg => cf_g_warm hW hg (h w hm hg)
/-! the list of what the places hold -/
def cf_lv (ad : Nat → Nat) : Nat → List (Option cf_AV) → List (Nat × Value)
  | _, [] => []
  | i, none :: r => cf_lv ad (i + 1) r
  | i, some v :: r => (i, cf_v ad v) :: cf_lv ad (i + 1) r
theorem cf_lv_mem {ad : Nat → Nat} {v : cf_AV} : ∀ (L : List (Option cf_AV)) (i j : Nat), L[j]? = some (some v) → (i + j, cf_v ad v) ∈ cf_lv ad i L := by
  intro L
  induction L with
  | nil => intro i j h; simp at h
  | cons a r ih =>
    intro i j h
    cases j with
    | zero =>
      have e : a = some v := by simpa using h
      subst e
      simp [cf_lv]
    | succ j =>
      have h' : r[j]? = some (some v) := by simpa using h
      have e := ih (i + 1) j h'
      have e3 : i + 1 + j = i + (j + 1) := by omega
      rw [e3] at e
      cases a with
      | none => simpa [cf_lv] using e
      | some u => simp only [cf_lv]; exact List.mem_cons_of_mem _ e
theorem cf_lv_of {ad : Nat → Nat} {q : Nat × Value} : ∀ (L : List (Option cf_AV)) (i : Nat), q ∈ cf_lv ad i L → ∃ (j : Nat) (v : cf_AV), L[j]? = some (some v) ∧ q = (i + j, cf_v ad v) := by
  intro L
  induction L with
  | nil => intro i h; simp [cf_lv] at h
  | cons a r ih =>
    intro i h
    cases a with
    | none =>
      obtain ⟨j, v, h1, h2⟩ := ih (i + 1) (by simpa [cf_lv] using h)
      exact ⟨j + 1, v, by simpa using h1, by rw [h2]; congr 1; omega⟩
    | some u =>
      simp only [cf_lv] at h
      rcases List.mem_cons.mp h with h | h
      · exact ⟨0, u, by simp, by simpa using h⟩
      · obtain ⟨j, v, h1, h2⟩ := ih (i + 1) h
        exact ⟨j + 1, v, by simpa using h1, by rw [h2]; congr 1; omega⟩
def cf_L (ad : Nat → Nat) (ls : Array Slot) (nL : Nat) (L : List (Option cf_AV)) : Prop := lv_has ls nL (cf_lv ad 0 L)
theorem cf_L.at {ad : Nat → Nat} {ls : Array Slot} {nL : Nat} {L : List (Option cf_AV)} (h : cf_L ad ls nL L) {j : Nat} {v : cf_AV} (hj : L[j]? = some (some v)) : ls[j]? = some (.val (cf_v ad v)) := by
  have e := cf_lv_mem (ad := ad) L 0 j hj
  rw [Nat.zero_add] at e
  exact h.2.2 _ e
theorem cf_L.put {ad : Nat → Nat} {ls' : Array Slot} {nL i : Nat} {L : List (Option cf_AV)} {v : cf_AV} (h : lv_has ls' nL ((i, cf_v ad v) :: (cf_lv ad 0 L).filter (fun q => !(q.1 == i) && !(q.1 + 1 == i && q.2.category == 2)))) : cf_L ad ls' nL (L.set i (some v)) := by
  refine ⟨h.1, h.2.1, fun q hq => ?_⟩
  obtain ⟨j, u, h1, h2⟩ := cf_lv_of _ 0 hq
  rw [Nat.zero_add] at h2
  subst h2
  by_cases hj : i = j
  · subst hj
    rw [List.getElem?_set] at h1
    have hu : u = v := by
      by_cases hl : i < L.length
      · rw [if_pos rfl, if_pos hl] at h1
        exact (Option.some.inj (Option.some.inj h1)).symm
      · rw [if_pos rfl, if_neg hl] at h1; cases h1
    rw [hu]
    exact h.2.2 _ List.mem_cons_self
  · rw [List.getElem?_set, if_neg hj] at h1
    have e := cf_lv_mem (ad := ad) L 0 j h1
    rw [Nat.zero_add] at e
    refine h.2.2 _ (List.mem_cons_of_mem _ (List.mem_filter.mpr ⟨e, ?_⟩))
    have hc := cf_v_cat ad u
    simp [hc]
    exact fun e => hj e.symm
end
section
theorem cf_in_pos {i : Int32} {n : Nat} (h : cf_in i n = true) : 0 < n := by
  unfold cf_in at h
  rw [Bool.and_eq_true, decide_eq_true_eq, decide_eq_true_eq] at h
  omega
theorem cf_bool_c {x : Int32} (h : (x == 0 || x == 1) = true) : x = 0 ∨ x = 1 := by
  rw [Bool.or_eq_true, beq_iff_eq, beq_iff_eq] at h
  exact h
theorem cf_bool_n {x : Int32} (h : (x == 0 || x == 1) = true) : narrow .boolean (.int x) = .int x := by
  rcases cf_bool_c h with rfl | rfl <;> rfl
theorem cf_bool_f {x : Int32} (h : (x == 0 || x == 1) = true) : fits .boolean (.int x) = true := by
  rcases cf_bool_c h with rfl | rfl <;> rfl
abbrev cf_Z : Type := Program × Env × State × MethodId × Array Value × List Frame × Method × Code × Nat × Nat × (State → Prop) × va_G × ClassId × (Nat → Nat) × (Nat → Prop)
def cf_R (l : Launch) (R : Room) (nL : Nat) (Z : cf_Z) (a : cf_Cfg) : Prop := match Z with
  | (p, e, s, m, args, below, meth, c, cells, slots, Q, D, cA, ad, A) => ∀ (H : Heap) (locs : List Loc) (ls : Array Slot), cf_L ad ls nL a.2.1 → va_P D cf_cls (cf_ws cA ad a.2.2.2) H → va_S A s.heap H locs → W p l e R s m args below meth c H locs cells slots Q (F0 m a.1 ls (a.2.2.1.map (cf_v ad)))
def cf_C (R : Room) (cc : ByteArray) (nL : Nat) (own : String) (Z : cf_Z) : Prop := match Z with
  | (p, _, s, m, _, _, _, c, cells, slots, _, D, cA, ad, A) => p.tables.exec = Jvm.exec ∧ c.code = cc ∧ c.maxLocals = nL ∧ s.vm.findClass own = some m.cls ∧ cf_B s ∧ va_K D cf_cls [(cA, .int)] s ∧ cf_D A ad ∧ cells ≤ R.cells ∧ slots ≤ R.slots
def cf_Fin (l : Launch) (R : Room) (cc : ByteArray) (Z : cf_Z) (q : cf_Rs) : Prop := match Z with
  | (p, e, s, m, args, below, meth, c, cells, slots, Q, D, cA, ad, A) => match q.1 with
    | some (.inl v) => ∀ (H : Heap) (locs : List Loc) (ls : Array Slot) (pc : Nat), decode cc pc = .ok (.ireturn, 1) → va_P D cf_cls (cf_ws cA ad q.2) H → va_S A s.heap H locs → W p l e R s m args below meth c H locs cells slots Q (F0 m pc ls [.int v])
    | some (.inr _) => False
    | none => ∀ (H : Heap) (locs : List Loc) (ls : Array Slot) (pc : Nat), decode cc pc = .ok (.return_, 1) → va_P D cf_cls (cf_ws cA ad q.2) H → va_S A s.heap H locs → W p l e R s m args below meth c H locs cells slots Q (F0 m pc ls [])
def cf_S (l : Launch) (R : Room) (cc : ByteArray) (nL : Nat) (own : String) (pc : Nat) (f : cf_Rw) : Prop := ∀ Z : cf_Z, cf_C R cc nL own Z → ∀ (L : List (Option cf_AV)) (st : List cf_AV) (w : cf_Wd), (∀ b : cf_Cfg, f L st w = some (.inl b) → cf_R l R nL Z b → cf_R l R nL Z (pc, L, st, w)) ∧ (∀ q : cf_Rs, f L st w = some (.inr q) → cf_Fin l R cc Z q → cf_R l R nL Z (pc, L, st, w))
section Rows
variable {l : Launch} {R : Room} {cc : ByteArray} {nL : Nat} {own : String} {pc : Nat}
theorem cf_S_stuck : cf_S l R cc nL own pc cf_stuck := fun Z hC L st w => ⟨fun b h _ => (nomatch (show (none : Option (cf_Cfg ⊕ cf_Rs)) = some _ from h)), fun q h _ => (nomatch (show (none : Option (cf_Cfg ⊕ cf_Rs)) = some _ from h))⟩
theorem cf_S_iconst {n : Int} {x : Int32} (hd : decode cc pc = .ok (.iconst n, 1)) (hv : Int32.ofInt n = x) : cf_S l R cc nL own pc (cf_const x (pc + 1)) := by
  intro Z hC L st w
  obtain ⟨p, e, s, m, args, below, meth, c, cells, slots, Q, D, cA, ad, A⟩ := Z
  obtain ⟨hx, hb, hml, hown, hB, hK, hD, hc1, hc2⟩ := hC
  refine ⟨fun b h k => ?_, fun q h => ?_⟩
  · obtain rfl := Sum.inl.inj (Option.some.inj h)
    intro H locs ls hL hP hS
    exact lv_iconst hx hb hd hv (k H locs ls hL hP hS)
  · exact nomatch (Option.some.inj h)
theorem cf_S_bipush {n : Int} {x : Int32} (hd : decode cc pc = .ok (.bipush n, 2)) (hv : (Int8.ofInt n).toInt32 = x) : cf_S l R cc nL own pc (cf_const x (pc + 2)) := by
  intro Z hC L st w
  obtain ⟨p, e, s, m, args, below, meth, c, cells, slots, Q, D, cA, ad, A⟩ := Z
  obtain ⟨hx, hb, hml, hown, hB, hK, hD, hc1, hc2⟩ := hC
  refine ⟨fun b h k => ?_, fun q h => ?_⟩
  · obtain rfl := Sum.inl.inj (Option.some.inj h)
    intro H locs ls hL hP hS
    exact lv_bipush hx hb hd hv (k H locs ls hL hP hS)
  · exact nomatch (Option.some.inj h)
theorem cf_S_sipush {n : Int} {x : Int32} (hd : decode cc pc = .ok (.sipush n, 3)) (hv : (Int16.ofInt n).toInt32 = x) : cf_S l R cc nL own pc (cf_const x (pc + 3)) := by
  intro Z hC L st w
  obtain ⟨p, e, s, m, args, below, meth, c, cells, slots, Q, D, cA, ad, A⟩ := Z
  obtain ⟨hx, hb, hml, hown, hB, hK, hD, hc1, hc2⟩ := hC
  refine ⟨fun b h k => ?_, fun q h => ?_⟩
  · obtain rfl := Sum.inl.inj (Option.some.inj h)
    intro H locs ls hL hP hS
    exact lv_sipush hx hb hd hv (k H locs ls hL hP hS)
  · exact nomatch (Option.some.inj h)
theorem cf_S_ldcw {i : Nat} {x : Int32} (hd : decode cc pc = .ok (.ldc_w i, 3)) (hw : Cond.constant own i x ∈ lw_tbl) : cf_S l R cc nL own pc (cf_const x (pc + 3)) := by
  intro Z hC L st w
  obtain ⟨p, e, s, m, args, below, meth, c, cells, slots, Q, D, cA, ad, A⟩ := Z
  obtain ⟨hx, hb, hml, hown, hB, hK, hD, hc1, hc2⟩ := hC
  refine ⟨fun b h k => ?_, fun q h => ?_⟩
  · obtain rfl := Sum.inl.inj (Option.some.inj h)
    intro H locs ls hL hP hS
    exact lv_ldcw hx hb hown (hB.use hw rfl args) hd (k H locs ls hL hP hS)
  · exact nomatch (Option.some.inj h)
theorem cf_S_iload_n {i : Nat} {j : Fin 4} (hd : decode cc pc = .ok (.iload_n j, 1)) (hi : (j : Nat) = i) : cf_S l R cc nL own pc (cf_iload i (pc + 1)) := by
  intro Z hC L st w
  obtain ⟨p, e, s, m, args, below, meth, c, cells, slots, Q, D, cA, ad, A⟩ := Z
  obtain ⟨hx, hb, hml, hown, hB, hK, hD, hc1, hc2⟩ := hC
  refine ⟨fun b h k => ?_, fun q h => ?_⟩
  · unfold cf_iload at h
    split at h
    · rename_i x hl
      obtain rfl := Sum.inl.inj (Option.some.inj h)
      intro H locs ls hL hP hS
      exact lv_iload_n hx hb hd hi (hL.at hl) (k H locs ls hL hP hS)
    · cases h
  · unfold cf_iload at h
    split at h <;> cases h
theorem cf_S_iload {i : Nat} (hd : decode cc pc = .ok (.iload i, 2)) : cf_S l R cc nL own pc (cf_iload i (pc + 2)) := by
  intro Z hC L st w
  obtain ⟨p, e, s, m, args, below, meth, c, cells, slots, Q, D, cA, ad, A⟩ := Z
  obtain ⟨hx, hb, hml, hown, hB, hK, hD, hc1, hc2⟩ := hC
  refine ⟨fun b h k => ?_, fun q h => ?_⟩
  · unfold cf_iload at h
    split at h
    · rename_i x hl
      obtain rfl := Sum.inl.inj (Option.some.inj h)
      intro H locs ls hL hP hS
      exact lv_iload hx hb hd (hL.at hl) (k H locs ls hL hP hS)
    · cases h
  · unfold cf_iload at h
    split at h <;> cases h
theorem cf_S_aload_n {i : Nat} {j : Fin 4} (hd : decode cc pc = .ok (.aload_n j, 1)) (hi : (j : Nat) = i) : cf_S l R cc nL own pc (cf_aload i (pc + 1)) := by
  intro Z hC L st w
  obtain ⟨p, e, s, m, args, below, meth, c, cells, slots, Q, D, cA, ad, A⟩ := Z
  obtain ⟨hx, hb, hml, hown, hB, hK, hD, hc1, hc2⟩ := hC
  refine ⟨fun b h k => ?_, fun q h => ?_⟩
  · unfold cf_aload at h
    split at h
    · rename_i x hl
      obtain rfl := Sum.inl.inj (Option.some.inj h)
      intro H locs ls hL hP hS
      exact lv_aload_n hx hb hd hi (hL.at hl) (k H locs ls hL hP hS)
    · cases h
  · unfold cf_aload at h
    split at h <;> cases h
theorem cf_S_istore_n {i : Nat} {j : Fin 4} (hd : decode cc pc = .ok (.istore_n j, 1)) (hi : (j : Nat) = i) (hn : i < nL) : cf_S l R cc nL own pc (cf_istore i (pc + 1)) := by
  intro Z hC L st w
  obtain ⟨p, e, s, m, args, below, meth, c, cells, slots, Q, D, cA, ad, A⟩ := Z
  obtain ⟨hx, hb, hml, hown, hB, hK, hD, hc1, hc2⟩ := hC
  refine ⟨fun b h k => ?_, fun q h => ?_⟩
  · unfold cf_istore at h
    split at h
    · rename_i x r
      obtain rfl := Sum.inl.inj (Option.some.inj h)
      intro H locs ls hL hP hS
      exact lv_istore_n hx hb hd hi hL hn rfl (fun ls' h9 => k H locs ls' (cf_L.put (v := .inl x) h9) hP hS)
    · cases h
  · unfold cf_istore at h
    split at h <;> cases h
theorem cf_S_istore {i : Nat} (hd : decode cc pc = .ok (.istore i, 2)) (hn : i < nL) : cf_S l R cc nL own pc (cf_istore i (pc + 2)) := by
  intro Z hC L st w
  obtain ⟨p, e, s, m, args, below, meth, c, cells, slots, Q, D, cA, ad, A⟩ := Z
  obtain ⟨hx, hb, hml, hown, hB, hK, hD, hc1, hc2⟩ := hC
  refine ⟨fun b h k => ?_, fun q h => ?_⟩
  · unfold cf_istore at h
    split at h
    · rename_i x r
      obtain rfl := Sum.inl.inj (Option.some.inj h)
      intro H locs ls hL hP hS
      exact lv_istore hx hb hd hL hn rfl (fun ls' h9 => k H locs ls' (cf_L.put (v := .inl x) h9) hP hS)
    · cases h
  · unfold cf_istore at h
    split at h <;> cases h
theorem cf_S_iinc {i : Nat} {n : Int} {x : Int32} (hd : decode cc pc = .ok (.iinc i n, 3)) (hv : Int32.ofInt n = x) (hn : i < nL) : cf_S l R cc nL own pc (cf_iinc i x (pc + 3)) := by
  intro Z hC L st w
  obtain ⟨p, e, s, m, args, below, meth, c, cells, slots, Q, D, cA, ad, A⟩ := Z
  obtain ⟨hx, hb, hml, hown, hB, hK, hD, hc1, hc2⟩ := hC
  refine ⟨fun b h k => ?_, fun q h => ?_⟩
  · unfold cf_iinc at h
    split at h
    · rename_i y hl
      obtain rfl := Sum.inl.inj (Option.some.inj h)
      intro H locs ls hL hP hS
      have hm := cf_lv_mem (ad := ad) L 0 i hl
      rw [Nat.zero_add] at hm
      obtain ⟨j, hj⟩ := List.getElem?_of_mem hm
      exact lv_iinc hx hb hd hL hj (v := y + x) (by rw [hv]) hn rfl (fun ls' h9 => k H locs ls' (cf_L.put (v := .inl (y + x)) h9) hP hS)
    · cases h
  · unfold cf_iinc at h
    split at h <;> cases h
theorem cf_S_iadd (hd : decode cc pc = .ok (.iadd, 1)) : cf_S l R cc nL own pc (cf_bin (fun x y => x + y) (pc + 1)) := by
  intro Z hC L st w
  obtain ⟨p, e, s, m, args, below, meth, c, cells, slots, Q, D, cA, ad, A⟩ := Z
  obtain ⟨hx, hb, hml, hown, hB, hK, hD, hc1, hc2⟩ := hC
  refine ⟨fun b h k => ?_, fun q h => ?_⟩
  · unfold cf_bin at h
    split at h
    · rename_i y x r
      obtain rfl := Sum.inl.inj (Option.some.inj h)
      intro H locs ls hL hP hS
      exact lv_iadd hx hb hd (k H locs ls hL hP hS)
    · cases h
  · unfold cf_bin at h
    split at h <;> cases h
theorem cf_S_isub (hd : decode cc pc = .ok (.isub, 1)) : cf_S l R cc nL own pc (cf_bin (fun x y => x - y) (pc + 1)) := by
  intro Z hC L st w
  obtain ⟨p, e, s, m, args, below, meth, c, cells, slots, Q, D, cA, ad, A⟩ := Z
  obtain ⟨hx, hb, hml, hown, hB, hK, hD, hc1, hc2⟩ := hC
  refine ⟨fun b h k => ?_, fun q h => ?_⟩
  · unfold cf_bin at h
    split at h
    · rename_i y x r
      obtain rfl := Sum.inl.inj (Option.some.inj h)
      intro H locs ls hL hP hS
      exact lv_isub hx hb hd (k H locs ls hL hP hS)
    · cases h
  · unfold cf_bin at h
    split at h <;> cases h
theorem cf_S_imul (hd : decode cc pc = .ok (.imul, 1)) : cf_S l R cc nL own pc (cf_bin (fun x y => x * y) (pc + 1)) := by
  intro Z hC L st w
  obtain ⟨p, e, s, m, args, below, meth, c, cells, slots, Q, D, cA, ad, A⟩ := Z
  obtain ⟨hx, hb, hml, hown, hB, hK, hD, hc1, hc2⟩ := hC
  refine ⟨fun b h k => ?_, fun q h => ?_⟩
  · unfold cf_bin at h
    split at h
    · rename_i y x r
      obtain rfl := Sum.inl.inj (Option.some.inj h)
      intro H locs ls hL hP hS
      exact lv_imul hx hb hd (k H locs ls hL hP hS)
    · cases h
  · unfold cf_bin at h
    split at h <;> cases h
theorem cf_S_iand (hd : decode cc pc = .ok (.iand, 1)) : cf_S l R cc nL own pc (cf_bin (fun x y => x &&& y) (pc + 1)) := by
  intro Z hC L st w
  obtain ⟨p, e, s, m, args, below, meth, c, cells, slots, Q, D, cA, ad, A⟩ := Z
  obtain ⟨hx, hb, hml, hown, hB, hK, hD, hc1, hc2⟩ := hC
  refine ⟨fun b h k => ?_, fun q h => ?_⟩
  · unfold cf_bin at h
    split at h
    · rename_i y x r
      obtain rfl := Sum.inl.inj (Option.some.inj h)
      intro H locs ls hL hP hS
      exact lv_iand hx hb hd (k H locs ls hL hP hS)
    · cases h
  · unfold cf_bin at h
    split at h <;> cases h
theorem cf_S_ior (hd : decode cc pc = .ok (.ior, 1)) : cf_S l R cc nL own pc (cf_bin (fun x y => x ||| y) (pc + 1)) := by
  intro Z hC L st w
  obtain ⟨p, e, s, m, args, below, meth, c, cells, slots, Q, D, cA, ad, A⟩ := Z
  obtain ⟨hx, hb, hml, hown, hB, hK, hD, hc1, hc2⟩ := hC
  refine ⟨fun b h k => ?_, fun q h => ?_⟩
  · unfold cf_bin at h
    split at h
    · rename_i y x r
      obtain rfl := Sum.inl.inj (Option.some.inj h)
      intro H locs ls hL hP hS
      exact lv_ior hx hb hd (k H locs ls hL hP hS)
    · cases h
  · unfold cf_bin at h
    split at h <;> cases h
theorem cf_S_ixor (hd : decode cc pc = .ok (.ixor, 1)) : cf_S l R cc nL own pc (cf_bin (fun x y => x ^^^ y) (pc + 1)) := by
  intro Z hC L st w
  obtain ⟨p, e, s, m, args, below, meth, c, cells, slots, Q, D, cA, ad, A⟩ := Z
  obtain ⟨hx, hb, hml, hown, hB, hK, hD, hc1, hc2⟩ := hC
  refine ⟨fun b h k => ?_, fun q h => ?_⟩
  · unfold cf_bin at h
    split at h
    · rename_i y x r
      obtain rfl := Sum.inl.inj (Option.some.inj h)
      intro H locs ls hL hP hS
      exact lv_ixor hx hb hd (k H locs ls hL hP hS)
    · cases h
  · unfold cf_bin at h
    split at h <;> cases h
theorem cf_S_ishl (hd : decode cc pc = .ok (.ishl, 1)) : cf_S l R cc nL own pc (cf_bin (fun x y => x <<< (y &&& 31)) (pc + 1)) := by
  intro Z hC L st w
  obtain ⟨p, e, s, m, args, below, meth, c, cells, slots, Q, D, cA, ad, A⟩ := Z
  obtain ⟨hx, hb, hml, hown, hB, hK, hD, hc1, hc2⟩ := hC
  refine ⟨fun b h k => ?_, fun q h => ?_⟩
  · unfold cf_bin at h
    split at h
    · rename_i y x r
      obtain rfl := Sum.inl.inj (Option.some.inj h)
      intro H locs ls hL hP hS
      exact lv_ishl hx hb hd (k H locs ls hL hP hS)
    · cases h
  · unfold cf_bin at h
    split at h <;> cases h
theorem cf_S_ishr (hd : decode cc pc = .ok (.ishr, 1)) : cf_S l R cc nL own pc (cf_bin (fun x y => x >>> (y &&& 31)) (pc + 1)) := by
  intro Z hC L st w
  obtain ⟨p, e, s, m, args, below, meth, c, cells, slots, Q, D, cA, ad, A⟩ := Z
  obtain ⟨hx, hb, hml, hown, hB, hK, hD, hc1, hc2⟩ := hC
  refine ⟨fun b h k => ?_, fun q h => ?_⟩
  · unfold cf_bin at h
    split at h
    · rename_i y x r
      obtain rfl := Sum.inl.inj (Option.some.inj h)
      intro H locs ls hL hP hS
      exact lv_ishr hx hb hd (k H locs ls hL hP hS)
    · cases h
  · unfold cf_bin at h
    split at h <;> cases h
theorem cf_S_iushr (hd : decode cc pc = .ok (.iushr, 1)) : cf_S l R cc nL own pc (cf_bin (fun x y => (x.toUInt32 >>> (y.toUInt32 &&& Int32.toUInt32 31)).toInt32) (pc + 1)) := by
  intro Z hC L st w
  obtain ⟨p, e, s, m, args, below, meth, c, cells, slots, Q, D, cA, ad, A⟩ := Z
  obtain ⟨hx, hb, hml, hown, hB, hK, hD, hc1, hc2⟩ := hC
  refine ⟨fun b h k => ?_, fun q h => ?_⟩
  · unfold cf_bin at h
    split at h
    · rename_i y x r
      obtain rfl := Sum.inl.inj (Option.some.inj h)
      intro H locs ls hL hP hS
      exact lv_iushr hx hb hd rfl (k H locs ls hL hP hS)
    · cases h
  · unfold cf_bin at h
    split at h <;> cases h
theorem cf_S_idiv (hd : decode cc pc = .ok (.idiv, 1)) : cf_S l R cc nL own pc (cf_div (pc + 1)) := by
  intro Z hC L st w
  obtain ⟨p, e, s, m, args, below, meth, c, cells, slots, Q, D, cA, ad, A⟩ := Z
  obtain ⟨hx, hb, hml, hown, hB, hK, hD, hc1, hc2⟩ := hC
  refine ⟨fun b h k => ?_, fun q h => ?_⟩
  · unfold cf_div at h
    split at h
    · rename_i y x r
      by_cases hy : y = 0
      · subst hy
        exact nomatch h
      · have hg : (!(y == 0)) = true := by simp [hy]
        rw [hg] at h
        obtain rfl := Sum.inl.inj (Option.some.inj h)
        intro H locs ls hL hP hS
        exact lv_idiv hx hb hd hy (k H locs ls hL hP hS)
    · cases h
  · unfold cf_div at h
    split at h
    · rename_i y x r
      cases hg : (!(y == 0)) <;> rw [hg] at h <;> cases h
    · cases h
theorem cf_S_irem (hd : decode cc pc = .ok (.irem, 1)) : cf_S l R cc nL own pc (cf_rem (pc + 1)) := by
  intro Z hC L st w
  obtain ⟨p, e, s, m, args, below, meth, c, cells, slots, Q, D, cA, ad, A⟩ := Z
  obtain ⟨hx, hb, hml, hown, hB, hK, hD, hc1, hc2⟩ := hC
  refine ⟨fun b h k => ?_, fun q h => ?_⟩
  · unfold cf_rem at h
    split at h
    · rename_i y x r
      by_cases hy : y = 0
      · subst hy
        exact nomatch h
      · have hg : (!(y == 0)) = true := by simp [hy]
        rw [hg] at h
        obtain rfl := Sum.inl.inj (Option.some.inj h)
        intro H locs ls hL hP hS
        exact lv_irem hx hb hd hy (k H locs ls hL hP hS)
    · cases h
  · unfold cf_rem at h
    split at h
    · rename_i y x r
      cases hg : (!(y == 0)) <;> rw [hg] at h <;> cases h
    · cases h
theorem cf_S_dup (hd : decode cc pc = .ok (.dup, 1)) : cf_S l R cc nL own pc (cf_dup (pc + 1)) := by
  intro Z hC L st w
  obtain ⟨p, e, s, m, args, below, meth, c, cells, slots, Q, D, cA, ad, A⟩ := Z
  obtain ⟨hx, hb, hml, hown, hB, hK, hD, hc1, hc2⟩ := hC
  refine ⟨fun b h k => ?_, fun q h => ?_⟩
  · unfold cf_dup at h
    split at h
    · rename_i v r
      obtain rfl := Sum.inl.inj (Option.some.inj h)
      intro H locs ls hL hP hS
      exact lv_dup hx hb hd (cf_v_cat ad v) (k H locs ls hL hP hS)
    · cases h
  · unfold cf_dup at h
    split at h <;> cases h
theorem cf_S_dup2 (hd : decode cc pc = .ok (.dup2, 1)) : cf_S l R cc nL own pc (cf_dup2 (pc + 1)) := by
  intro Z hC L st w
  obtain ⟨p, e, s, m, args, below, meth, c, cells, slots, Q, D, cA, ad, A⟩ := Z
  obtain ⟨hx, hb, hml, hown, hB, hK, hD, hc1, hc2⟩ := hC
  refine ⟨fun b h k => ?_, fun q h => ?_⟩
  · unfold cf_dup2 at h
    split at h
    · rename_i v u r
      obtain rfl := Sum.inl.inj (Option.some.inj h)
      intro H locs ls hL hP hS
      exact lv_dup2_11 hx hb hd (cf_v_cat ad v) (cf_v_cat ad u) (k H locs ls hL hP hS)
    · cases h
  · unfold cf_dup2 at h
    split at h <;> cases h
theorem cf_S_goto {off : Int} {t : Nat} (hd : decode cc pc = .ok (.goto off, 3)) (ht : (pc : Int) + off = (t : Int)) : cf_S l R cc nL own pc (cf_goto t) := by
  intro Z hC L st w
  obtain ⟨p, e, s, m, args, below, meth, c, cells, slots, Q, D, cA, ad, A⟩ := Z
  obtain ⟨hx, hb, hml, hown, hB, hK, hD, hc1, hc2⟩ := hC
  refine ⟨fun b h k => ?_, fun q h => ?_⟩
  · obtain rfl := Sum.inl.inj (Option.some.inj h)
    intro H locs ls hL hP hS
    exact lv_goto hx hb hd ht (k H locs ls hL hP hS)
  · exact nomatch (Option.some.inj h)
theorem cf_S_ifeq {off : Int} {t : Nat} (hd : decode cc pc = .ok (.ifCond .eq off, 3)) (ht : (pc : Int) + off = (t : Int)) : cf_S l R cc nL own pc (cf_ifeq t (pc + 3)) := by
  intro Z hC L st w
  obtain ⟨p, e, s, m, args, below, meth, c, cells, slots, Q, D, cA, ad, A⟩ := Z
  obtain ⟨hx, hb, hml, hown, hB, hK, hD, hc1, hc2⟩ := hC
  refine ⟨fun b h k => ?_, fun q h => ?_⟩
  · unfold cf_ifeq at h
    split at h
    · rename_i x r
      obtain rfl := Sum.inl.inj (Option.some.inj h)
      intro H locs ls hL hP hS
      exact lv_if_eq hx hb hd ht (fun hq => by rw [if_pos hq] at k; exact (k H locs ls hL hP hS)) (fun hq => by rw [if_neg hq] at k; exact (k H locs ls hL hP hS))
    · cases h
  · unfold cf_ifeq at h
    split at h <;> cases h
theorem cf_S_ifne {off : Int} {t : Nat} (hd : decode cc pc = .ok (.ifCond .ne off, 3)) (ht : (pc : Int) + off = (t : Int)) : cf_S l R cc nL own pc (cf_ifne t (pc + 3)) := by
  intro Z hC L st w
  obtain ⟨p, e, s, m, args, below, meth, c, cells, slots, Q, D, cA, ad, A⟩ := Z
  obtain ⟨hx, hb, hml, hown, hB, hK, hD, hc1, hc2⟩ := hC
  refine ⟨fun b h k => ?_, fun q h => ?_⟩
  · unfold cf_ifne at h
    split at h
    · rename_i x r
      obtain rfl := Sum.inl.inj (Option.some.inj h)
      intro H locs ls hL hP hS
      exact lv_if_ne hx hb hd ht (fun hq => by rw [if_pos hq] at k; exact (k H locs ls hL hP hS)) (fun hq => by rw [if_neg (fun z => z hq)] at k; exact (k H locs ls hL hP hS))
    · cases h
  · unfold cf_ifne at h
    split at h <;> cases h
theorem cf_S_iflt {off : Int} {t : Nat} (hd : decode cc pc = .ok (.ifCond .lt off, 3)) (ht : (pc : Int) + off = (t : Int)) : cf_S l R cc nL own pc (cf_iflt t (pc + 3)) := by
  intro Z hC L st w
  obtain ⟨p, e, s, m, args, below, meth, c, cells, slots, Q, D, cA, ad, A⟩ := Z
  obtain ⟨hx, hb, hml, hown, hB, hK, hD, hc1, hc2⟩ := hC
  refine ⟨fun b h k => ?_, fun q h => ?_⟩
  · unfold cf_iflt at h
    split at h
    · rename_i x r
      obtain rfl := Sum.inl.inj (Option.some.inj h)
      intro H locs ls hL hP hS
      exact lv_if_lt hx hb hd ht (fun hq => by rw [if_pos hq] at k; exact (k H locs ls hL hP hS)) (fun hq => by rw [if_neg hq] at k; exact (k H locs ls hL hP hS))
    · cases h
  · unfold cf_iflt at h
    split at h <;> cases h
theorem cf_S_ifge {off : Int} {t : Nat} (hd : decode cc pc = .ok (.ifCond .ge off, 3)) (ht : (pc : Int) + off = (t : Int)) : cf_S l R cc nL own pc (cf_ifge t (pc + 3)) := by
  intro Z hC L st w
  obtain ⟨p, e, s, m, args, below, meth, c, cells, slots, Q, D, cA, ad, A⟩ := Z
  obtain ⟨hx, hb, hml, hown, hB, hK, hD, hc1, hc2⟩ := hC
  refine ⟨fun b h k => ?_, fun q h => ?_⟩
  · unfold cf_ifge at h
    split at h
    · rename_i x r
      obtain rfl := Sum.inl.inj (Option.some.inj h)
      intro H locs ls hL hP hS
      exact lv_if_ge hx hb hd ht (fun hq => by rw [if_pos hq] at k; exact (k H locs ls hL hP hS)) (fun hq => by rw [if_neg hq] at k; exact (k H locs ls hL hP hS))
    · cases h
  · unfold cf_ifge at h
    split at h <;> cases h
theorem cf_S_ifgt {off : Int} {t : Nat} (hd : decode cc pc = .ok (.ifCond .gt off, 3)) (ht : (pc : Int) + off = (t : Int)) : cf_S l R cc nL own pc (cf_ifgt t (pc + 3)) := by
  intro Z hC L st w
  obtain ⟨p, e, s, m, args, below, meth, c, cells, slots, Q, D, cA, ad, A⟩ := Z
  obtain ⟨hx, hb, hml, hown, hB, hK, hD, hc1, hc2⟩ := hC
  refine ⟨fun b h k => ?_, fun q h => ?_⟩
  · unfold cf_ifgt at h
    split at h
    · rename_i x r
      obtain rfl := Sum.inl.inj (Option.some.inj h)
      intro H locs ls hL hP hS
      exact lv_if_gt hx hb hd ht (fun hq => by rw [if_pos hq] at k; exact (k H locs ls hL hP hS)) (fun hq => by rw [if_neg hq] at k; exact (k H locs ls hL hP hS))
    · cases h
  · unfold cf_ifgt at h
    split at h <;> cases h
theorem cf_S_ifle {off : Int} {t : Nat} (hd : decode cc pc = .ok (.ifCond .le off, 3)) (ht : (pc : Int) + off = (t : Int)) : cf_S l R cc nL own pc (cf_ifle t (pc + 3)) := by
  intro Z hC L st w
  obtain ⟨p, e, s, m, args, below, meth, c, cells, slots, Q, D, cA, ad, A⟩ := Z
  obtain ⟨hx, hb, hml, hown, hB, hK, hD, hc1, hc2⟩ := hC
  refine ⟨fun b h k => ?_, fun q h => ?_⟩
  · unfold cf_ifle at h
    split at h
    · rename_i x r
      obtain rfl := Sum.inl.inj (Option.some.inj h)
      intro H locs ls hL hP hS
      exact lv_if_le hx hb hd ht (fun hq => by rw [if_pos hq] at k; exact (k H locs ls hL hP hS)) (fun hq => by rw [if_neg hq] at k; exact (k H locs ls hL hP hS))
    · cases h
  · unfold cf_ifle at h
    split at h <;> cases h
theorem cf_S_iceq {off : Int} {t : Nat} (hd : decode cc pc = .ok (.if_icmp .eq off, 3)) (ht : (pc : Int) + off = (t : Int)) : cf_S l R cc nL own pc (cf_iceq t (pc + 3)) := by
  intro Z hC L st w
  obtain ⟨p, e, s, m, args, below, meth, c, cells, slots, Q, D, cA, ad, A⟩ := Z
  obtain ⟨hx, hb, hml, hown, hB, hK, hD, hc1, hc2⟩ := hC
  refine ⟨fun b h k => ?_, fun q h => ?_⟩
  · unfold cf_iceq at h
    split at h
    · rename_i y x r
      obtain rfl := Sum.inl.inj (Option.some.inj h)
      intro H locs ls hL hP hS
      exact lv_icmp_eq hx hb hd ht (fun hq => by rw [if_pos hq] at k; exact (k H locs ls hL hP hS)) (fun hq => by rw [if_neg hq] at k; exact (k H locs ls hL hP hS))
    · cases h
  · unfold cf_iceq at h
    split at h <;> cases h
theorem cf_S_icne {off : Int} {t : Nat} (hd : decode cc pc = .ok (.if_icmp .ne off, 3)) (ht : (pc : Int) + off = (t : Int)) : cf_S l R cc nL own pc (cf_icne t (pc + 3)) := by
  intro Z hC L st w
  obtain ⟨p, e, s, m, args, below, meth, c, cells, slots, Q, D, cA, ad, A⟩ := Z
  obtain ⟨hx, hb, hml, hown, hB, hK, hD, hc1, hc2⟩ := hC
  refine ⟨fun b h k => ?_, fun q h => ?_⟩
  · unfold cf_icne at h
    split at h
    · rename_i y x r
      obtain rfl := Sum.inl.inj (Option.some.inj h)
      intro H locs ls hL hP hS
      exact lv_icmp_ne hx hb hd ht (fun hq => by rw [if_pos hq] at k; exact (k H locs ls hL hP hS)) (fun hq => by rw [if_neg (fun z => z hq)] at k; exact (k H locs ls hL hP hS))
    · cases h
  · unfold cf_icne at h
    split at h <;> cases h
theorem cf_S_iclt {off : Int} {t : Nat} (hd : decode cc pc = .ok (.if_icmp .lt off, 3)) (ht : (pc : Int) + off = (t : Int)) : cf_S l R cc nL own pc (cf_iclt t (pc + 3)) := by
  intro Z hC L st w
  obtain ⟨p, e, s, m, args, below, meth, c, cells, slots, Q, D, cA, ad, A⟩ := Z
  obtain ⟨hx, hb, hml, hown, hB, hK, hD, hc1, hc2⟩ := hC
  refine ⟨fun b h k => ?_, fun q h => ?_⟩
  · unfold cf_iclt at h
    split at h
    · rename_i y x r
      obtain rfl := Sum.inl.inj (Option.some.inj h)
      intro H locs ls hL hP hS
      exact lv_icmp_lt hx hb hd ht (fun hq => by rw [if_pos hq] at k; exact (k H locs ls hL hP hS)) (fun hq => by rw [if_neg hq] at k; exact (k H locs ls hL hP hS))
    · cases h
  · unfold cf_iclt at h
    split at h <;> cases h
theorem cf_S_icge {off : Int} {t : Nat} (hd : decode cc pc = .ok (.if_icmp .ge off, 3)) (ht : (pc : Int) + off = (t : Int)) : cf_S l R cc nL own pc (cf_icge t (pc + 3)) := by
  intro Z hC L st w
  obtain ⟨p, e, s, m, args, below, meth, c, cells, slots, Q, D, cA, ad, A⟩ := Z
  obtain ⟨hx, hb, hml, hown, hB, hK, hD, hc1, hc2⟩ := hC
  refine ⟨fun b h k => ?_, fun q h => ?_⟩
  · unfold cf_icge at h
    split at h
    · rename_i y x r
      obtain rfl := Sum.inl.inj (Option.some.inj h)
      intro H locs ls hL hP hS
      exact lv_icmp_ge hx hb hd ht (fun hq => by rw [if_pos hq] at k; exact (k H locs ls hL hP hS)) (fun hq => by rw [if_neg hq] at k; exact (k H locs ls hL hP hS))
    · cases h
  · unfold cf_icge at h
    split at h <;> cases h
theorem cf_S_icgt {off : Int} {t : Nat} (hd : decode cc pc = .ok (.if_icmp .gt off, 3)) (ht : (pc : Int) + off = (t : Int)) : cf_S l R cc nL own pc (cf_icgt t (pc + 3)) := by
  intro Z hC L st w
  obtain ⟨p, e, s, m, args, below, meth, c, cells, slots, Q, D, cA, ad, A⟩ := Z
  obtain ⟨hx, hb, hml, hown, hB, hK, hD, hc1, hc2⟩ := hC
  refine ⟨fun b h k => ?_, fun q h => ?_⟩
  · unfold cf_icgt at h
    split at h
    · rename_i y x r
      obtain rfl := Sum.inl.inj (Option.some.inj h)
      intro H locs ls hL hP hS
      exact lv_icmp_gt hx hb hd ht (fun hq => by rw [if_pos hq] at k; exact (k H locs ls hL hP hS)) (fun hq => by rw [if_neg hq] at k; exact (k H locs ls hL hP hS))
    · cases h
  · unfold cf_icgt at h
    split at h <;> cases h
theorem cf_S_icle {off : Int} {t : Nat} (hd : decode cc pc = .ok (.if_icmp .le off, 3)) (ht : (pc : Int) + off = (t : Int)) : cf_S l R cc nL own pc (cf_icle t (pc + 3)) := by
  intro Z hC L st w
  obtain ⟨p, e, s, m, args, below, meth, c, cells, slots, Q, D, cA, ad, A⟩ := Z
  obtain ⟨hx, hb, hml, hown, hB, hK, hD, hc1, hc2⟩ := hC
  refine ⟨fun b h k => ?_, fun q h => ?_⟩
  · unfold cf_icle at h
    split at h
    · rename_i y x r
      obtain rfl := Sum.inl.inj (Option.some.inj h)
      intro H locs ls hL hP hS
      exact lv_icmp_le hx hb hd ht (fun hq => by rw [if_pos hq] at k; exact (k H locs ls hL hP hS)) (fun hq => by rw [if_neg hq] at k; exact (k H locs ls hL hP hS))
    · cases h
  · unfold cf_icle at h
    split at h <;> cases h
theorem cf_S_iret (hd : decode cc pc = .ok (.ireturn, 1)) : cf_S l R cc nL own pc cf_iret := by
  intro Z hC L st w
  obtain ⟨p, e, s, m, args, below, meth, c, cells, slots, Q, D, cA, ad, A⟩ := Z
  obtain ⟨hx, hb, hml, hown, hB, hK, hD, hc1, hc2⟩ := hC
  refine ⟨fun b h k => ?_, fun q h k => ?_⟩
  · unfold cf_iret at h
    split at h <;> cases h
  · unfold cf_iret at h
    split at h
    · rename_i x
      obtain rfl := Sum.inr.inj (Option.some.inj h)
      intro H locs ls hL hP hS
      exact k H locs ls pc hd hP hS
    · cases h
theorem cf_S_vret (hd : decode cc pc = .ok (.return_, 1)) : cf_S l R cc nL own pc cf_vret := by
  intro Z hC L st w
  obtain ⟨p, e, s, m, args, below, meth, c, cells, slots, Q, D, cA, ad, A⟩ := Z
  obtain ⟨hx, hb, hml, hown, hB, hK, hD, hc1, hc2⟩ := hC
  refine ⟨fun b h k => ?_, fun q h k => ?_⟩
  · unfold cf_vret at h
    split at h <;> cases h
  · unfold cf_vret at h
    split at h
    · obtain rfl := Sum.inr.inj (Option.some.inj h)
      intro H locs ls hL hP hS
      exact k H locs ls pc hd hP hS
    · cases h
theorem cf_S_iald (hd : decode cc pc = .ok (.iaload, 1)) : cf_S l R cc nL own pc (cf_iald (pc + 1)) := by
  intro Z hC L st w
  obtain ⟨p, e, s, m, args, below, meth, c, cells, slots, Q, D, cA, ad, A⟩ := Z
  obtain ⟨hx, hb, hml, hown, hB, hK, hD, hc1, hc2⟩ := hC
  refine ⟨fun b h k => ?_, fun q h => ?_⟩
  · unfold cf_iald at h
    split at h
    · rename_i i k0 r
      split at h
      · rename_i n hs
        cases hg : cf_in i n with
        | false => rw [hg] at h; exact nomatch h
        | true =>
          rw [hg] at h
          obtain rfl := Sum.inl.inj (Option.some.inj h)
          intro H locs ls hL hP hS
          have h26 : k0 < 26 := cf_shp_a hs (cf_in_pos hg)
          have hat : (cf_ws cA ad w)[k0]? = some (ad k0, .inl (cA, n, .inl (w k0))) := by rw [cf_ws_at, if_pos h26, cf_cel_a hs]
          exact va_iald hx hb hK hP k0 0 hat rfl (cf_in_vp hg) hd (k H locs ls hL hP hS)
      · cases h
    · cases h
  · unfold cf_iald at h
    split at h
    · rename_i i k0 r
      split at h
      · rename_i n hs
        cases hg : cf_in i n <;> rw [hg] at h <;> cases h
      · cases h
    · cases h
theorem cf_S_iast (hd : decode cc pc = .ok (.iastore, 1)) : cf_S l R cc nL own pc (cf_iast (pc + 1)) := by
  intro Z hC L st w
  obtain ⟨p, e, s, m, args, below, meth, c, cells, slots, Q, D, cA, ad, A⟩ := Z
  obtain ⟨hx, hb, hml, hown, hB, hK, hD, hc1, hc2⟩ := hC
  refine ⟨fun b h k => ?_, fun q h => ?_⟩
  · unfold cf_iast at h
    split at h
    · rename_i x i k0 r
      split at h
      · rename_i n hs
        cases hg : cf_in i n with
        | false => rw [hg] at h; exact nomatch h
        | true =>
          rw [hg] at h
          obtain rfl := Sum.inl.inj (Option.some.inj h)
          intro H locs ls hL hP hS
          have h26 : k0 < 26 := cf_shp_a hs (cf_in_pos hg)
          have hat : (cf_ws cA ad w)[k0]? = some (ad k0, .inl (cA, n, .inl (w k0))) := by rw [cf_ws_at, if_pos h26, cf_cel_a hs]
          exact va_iast hx hb hK hP (hD.va cA w) hS k0 0 hat rfl (cf_in_vp hg) hd (fun H1 locs1 hP1 hD1 hS1 => k H1 locs1 ls hL (by rw [cf_set_a _ hs] at hP1; exact hP1) hS1)
      · cases h
    · cases h
  · unfold cf_iast at h
    split at h
    · rename_i x i k0 r
      split at h
      · rename_i n hs
        cases hg : cf_in i n <;> rw [hg] at h <;> cases h
      · cases h
    · cases h
theorem cf_S_alen (hd : decode cc pc = .ok (.arraylength, 1)) : cf_S l R cc nL own pc (cf_alen (pc + 1)) := by
  intro Z hC L st w
  obtain ⟨p, e, s, m, args, below, meth, c, cells, slots, Q, D, cA, ad, A⟩ := Z
  obtain ⟨hx, hb, hml, hown, hB, hK, hD, hc1, hc2⟩ := hC
  refine ⟨fun b h k => ?_, fun q h => ?_⟩
  · unfold cf_alen at h
    split at h
    · rename_i k0 r
      split at h
      · rename_i n hs
        cases hg : Nat.blt k0 26 with
        | false => rw [hg] at h; exact nomatch h
        | true =>
          rw [hg] at h
          obtain rfl := Sum.inl.inj (Option.some.inj h)
          intro H locs ls hL hP hS
          have h26 : k0 < 26 := by simpa using hg
          have hat : (cf_ws cA ad w)[k0]? = some (ad k0, .inl (cA, n, .inl (w k0))) := by rw [cf_ws_at, if_pos h26, cf_cel_a hs]
          exact va_alen hx hb hK hP k0 0 hat rfl rfl hd (k H locs ls hL hP hS)
      · cases h
    · cases h
  · unfold cf_alen at h
    split at h
    · rename_i k0 r
      split at h
      · rename_i n hs
        cases hg : Nat.blt k0 26 <;> rw [hg] at h <;> cases h
      · cases h
    · cases h
theorem cf_S_get {ci j N idx : Nat} {C : String} {T : u_T} (hc : cf_cls[ci]? = some (C, T, N)) (hj : j < N) (hla : ∀ w ∈ u_ws C T N, w ∈ lw_tbl ∧ cf_g w = true) (hw : Cond.fieldLink own idx (T j).1 (T j).2.1 (T j).2.2.1 ∈ lw_tbl) (hd : decode cc pc = .ok (.getfield idx, 3)) : cf_S l R cc nL own pc (cf_get ci j (pc + 3)) := by
  intro Z hC L st w
  obtain ⟨p, e, s, m, args, below, meth, c, cells, slots, Q, D, cA, ad, A⟩ := Z
  obtain ⟨hx, hb, hml, hown, hB, hK, hD, hc1, hc2⟩ := hC
  have hts : ∀ w ∈ u_ws C T N, w.before args s = true := fun w hm => hB.use (hla w hm).1 (hla w hm).2 args
  refine ⟨fun b h k => ?_, fun q h => ?_⟩
  · unfold cf_get at h
    split at h
    · rename_i k0 r
      split at h
      · rename_i ci2 fs hs
        cases hg : Nat.beq ci2 ci with
        | false => rw [hg] at h; exact nomatch h
        | true =>
          have ec : ci2 = ci := by simpa using hg
          subst ec
          rw [hg] at h
          have h26 : k0 < 26 := cf_shp_o hs
          have hat : (cf_ws cA ad w)[k0]? = some (ad k0, .inr (ci2, cf_fv ad (w k0) 0 fs)) := by rw [cf_ws_at, if_pos h26, cf_cel_o hs]
          simp only [cond_true] at h
          split at h
          · rename_i hf
            obtain rfl := Sum.inl.inj (Option.some.inj h)
            intro H locs ls hL hP hS
            have hv := cf_fv_int ad (w k0) fs 0 j hf
            rw [Nat.zero_add] at hv
            exact va_get hx hb hts (fun _ z => z) hown hK hP k0 hat hc j hj (hB.use hw rfl args) (fun _ z => z) hv hd (k H locs ls hL hP hS)
          · rename_i t hf
            obtain rfl := Sum.inl.inj (Option.some.inj h)
            intro H locs ls hL hP hS
            have hv := cf_fv_ref ad (w k0) fs 0 j hf
            exact va_get hx hb hts (fun _ z => z) hown hK hP k0 hat hc j hj (hB.use hw rfl args) (fun _ z => z) hv hd (k H locs ls hL hP hS)
          · cases h
      · cases h
    · cases h
  · unfold cf_get at h
    split at h
    · rename_i k0 r
      split at h
      · rename_i ci2 fs hs
        cases hg : Nat.beq ci2 ci <;> rw [hg] at h
        · cases h
        · simp only [cond_true] at h
          split at h <;> cases h
      · cases h
    · cases h
theorem cf_S_getN {ci j N idx : Nat} {C : String} {T : u_T} {host : String} (hc : cf_cls[ci]? = some (C, T, N)) (hj : j < N) (hla : ∀ w ∈ u_ws C T N, w ∈ lw_tbl ∧ cf_g w = true) (hw : Cond.fieldLinkNest own idx (T j).1 (T j).2.1 (T j).2.2.1 host ∈ lw_tbl) (hd : decode cc pc = .ok (.getfield idx, 3)) : cf_S l R cc nL own pc (cf_get ci j (pc + 3)) := by
  intro Z hC L st w
  obtain ⟨p, e, s, m, args, below, meth, c, cells, slots, Q, D, cA, ad, A⟩ := Z
  obtain ⟨hx, hb, hml, hown, hB, hK, hD, hc1, hc2⟩ := hC
  have hts : ∀ w ∈ u_ws C T N, w.before args s = true := fun w hm => hB.use (hla w hm).1 (hla w hm).2 args
  refine ⟨fun b h k => ?_, fun q h => ?_⟩
  · unfold cf_get at h
    split at h
    · rename_i k0 r
      split at h
      · rename_i ci2 fs hs
        cases hg : Nat.beq ci2 ci with
        | false => rw [hg] at h; exact nomatch h
        | true =>
          have ec : ci2 = ci := by simpa using hg
          subst ec
          rw [hg] at h
          have h26 : k0 < 26 := cf_shp_o hs
          have hat : (cf_ws cA ad w)[k0]? = some (ad k0, .inr (ci2, cf_fv ad (w k0) 0 fs)) := by rw [cf_ws_at, if_pos h26, cf_cel_o hs]
          simp only [cond_true] at h
          split at h
          · rename_i hf
            obtain rfl := Sum.inl.inj (Option.some.inj h)
            intro H locs ls hL hP hS
            have hv := cf_fv_int ad (w k0) fs 0 j hf
            rw [Nat.zero_add] at hv
            exact va_getN hx hb hts (fun _ z => z) hown hK hP k0 hat hc j hj (hB.use hw rfl args) (fun _ z => z) hv hd (k H locs ls hL hP hS)
          · rename_i t hf
            obtain rfl := Sum.inl.inj (Option.some.inj h)
            intro H locs ls hL hP hS
            have hv := cf_fv_ref ad (w k0) fs 0 j hf
            exact va_getN hx hb hts (fun _ z => z) hown hK hP k0 hat hc j hj (hB.use hw rfl args) (fun _ z => z) hv hd (k H locs ls hL hP hS)
          · cases h
      · cases h
    · cases h
  · unfold cf_get at h
    split at h
    · rename_i k0 r
      split at h
      · rename_i ci2 fs hs
        cases hg : Nat.beq ci2 ci <;> rw [hg] at h
        · cases h
        · simp only [cond_true] at h
          split at h <;> cases h
      · cases h
    · cases h
theorem cf_S_put {ci j N idx : Nat} {C : String} {T : u_T} {tT : Nat → FieldType} (hc : cf_cls[ci]? = some (C, T, N)) (hj : j < N) (hla : ∀ w ∈ u_ws C T N, w ∈ lw_tbl ∧ cf_g w = true) (hty : ∀ k, k < N → parseFieldDescriptor (T k).2.2.1 = some (tT k)) (hnm : ∀ a, a < N → ∀ b, b < N → a ≠ b → (T a).2.1 ≠ (T b).2.1) (hfi : (T j).2.2.2 = false) (hdd : parseFieldDescriptor (T j).2.2.1 = some .int) (hw : Cond.fieldLink own idx (T j).1 (T j).2.1 (T j).2.2.1 ∈ lw_tbl) (hd : decode cc pc = .ok (.putfield idx, 3)) : cf_S l R cc nL own pc (cf_put ci j (pc + 3)) := by
  intro Z hC L st w
  obtain ⟨p, e, s, m, args, below, meth, c, cells, slots, Q, D, cA, ad, A⟩ := Z
  obtain ⟨hx, hb, hml, hown, hB, hK, hD, hc1, hc2⟩ := hC
  have hts : ∀ w ∈ u_ws C T N, w.before args s = true := fun w hm => hB.use (hla w hm).1 (hla w hm).2 args
  refine ⟨fun b h k => ?_, fun q h => ?_⟩
  · unfold cf_put at h
    split at h
    · rename_i x k0 r
      split at h
      · rename_i ci2 fs hs
        cases hg : Nat.beq ci2 ci with
        | false => rw [hg] at h; exact nomatch h
        | true =>
          have ec : ci2 = ci := by simpa using hg
          subst ec
          rw [hg] at h
          have h26 : k0 < 26 := cf_shp_o hs
          have hat : (cf_ws cA ad w)[k0]? = some (ad k0, .inr (ci2, cf_fv ad (w k0) 0 fs)) := by rw [cf_ws_at, if_pos h26, cf_cel_o hs]
          simp only [cond_true] at h
          split at h
          · rename_i hf
            obtain rfl := Sum.inl.inj (Option.some.inj h)
            intro H locs ls hL hP hS
            have hl : j < (cf_fv ad (w k0) 0 fs).length := by rw [cf_fv_len]; exact (List.getElem?_eq_some_iff.mp hf).1
            exact va_put hx hb hts (fun _ z => z) tT hty hnm hown hK hP (hD.va cA w) hS k0 hat hc j hj (hB.use hw rfl args) (fun _ z => z) hfi hdd rfl rfl hl hd (fun H1 locs1 hP1 hD1 hS1 => k H1 locs1 ls hL (by
                have e9 := cf_set_o (cA := cA) (ad := ad) (w := w) x hs hf
                exact Eq.mp (congrArg (fun z => va_P D cf_cls z H1) e9) hP1) hS1)
          · cases h
      · cases h
    · cases h
  · unfold cf_put at h
    split at h
    · rename_i x k0 r
      split at h
      · rename_i ci2 fs hs
        cases hg : Nat.beq ci2 ci <;> rw [hg] at h
        · cases h
        · simp only [cond_true] at h
          split at h
          · cases h
          · cases h
      · cases h
    · cases h
theorem cf_S_putz {ci j N idx : Nat} {C : String} {T : u_T} {tT : Nat → FieldType} (hc : cf_cls[ci]? = some (C, T, N)) (hj : j < N) (hla : ∀ w ∈ u_ws C T N, w ∈ lw_tbl ∧ cf_g w = true) (hty : ∀ k, k < N → parseFieldDescriptor (T k).2.2.1 = some (tT k)) (hnm : ∀ a, a < N → ∀ b, b < N → a ≠ b → (T a).2.1 ≠ (T b).2.1) (hfi : (T j).2.2.2 = false) (hdd : parseFieldDescriptor (T j).2.2.1 = some .boolean) (hw : Cond.fieldLink own idx (T j).1 (T j).2.1 (T j).2.2.1 ∈ lw_tbl) (hd : decode cc pc = .ok (.putfield idx, 3)) : cf_S l R cc nL own pc (cf_putz ci j (pc + 3)) := by
  intro Z hC L st w
  obtain ⟨p, e, s, m, args, below, meth, c, cells, slots, Q, D, cA, ad, A⟩ := Z
  obtain ⟨hx, hb, hml, hown, hB, hK, hD, hc1, hc2⟩ := hC
  have hts : ∀ w ∈ u_ws C T N, w.before args s = true := fun w hm => hB.use (hla w hm).1 (hla w hm).2 args
  refine ⟨fun b h k => ?_, fun q h => ?_⟩
  · unfold cf_putz at h
    split at h
    · rename_i x k0 r
      split at h
      · rename_i ci2 fs hs
        cases hg : Nat.beq ci2 ci with
        | false => rw [hg] at h; exact nomatch h
        | true =>
          have ec : ci2 = ci := by simpa using hg
          subst ec
          rw [hg] at h
          have h26 : k0 < 26 := cf_shp_o hs
          have hat : (cf_ws cA ad w)[k0]? = some (ad k0, .inr (ci2, cf_fv ad (w k0) 0 fs)) := by rw [cf_ws_at, if_pos h26, cf_cel_o hs]
          simp only [cond_true] at h
          split at h
          · rename_i hf
            cases hz : (x == 0 || x == 1) with
            | false => rw [hz] at h; exact nomatch h
            | true =>
              rw [hz] at h
              obtain rfl := Sum.inl.inj (Option.some.inj h)
              intro H locs ls hL hP hS
              have hl : j < (cf_fv ad (w k0) 0 fs).length := by rw [cf_fv_len]; exact (List.getElem?_eq_some_iff.mp hf).1
              exact va_put hx hb hts (fun _ z => z) tT hty hnm hown hK hP (hD.va cA w) hS k0 hat hc j hj (hB.use hw rfl args) (fun _ z => z) hfi hdd (cf_bool_n hz) (cf_bool_f hz) hl hd (fun H1 locs1 hP1 hD1 hS1 => k H1 locs1 ls hL (by
                have e9 := cf_set_o (cA := cA) (ad := ad) (w := w) x hs hf
                exact Eq.mp (congrArg (fun z => va_P D cf_cls z H1) e9) hP1) hS1)
          · cases h
      · cases h
    · cases h
  · unfold cf_putz at h
    split at h
    · rename_i x k0 r
      split at h
      · rename_i ci2 fs hs
        cases hg : Nat.beq ci2 ci <;> rw [hg] at h
        · cases h
        · simp only [cond_true] at h
          split at h
          · cases hz : (x == 0 || x == 1) <;> rw [hz] at h <;> cases h
          · cases h
      · cases h
    · cases h
theorem cf_S_tsw {d lo hi : Int} {offs : Array Int} {len dn : Nat} {tg : List Nat} (hd : decode cc pc = .ok (.tableswitch d lo hi offs, len)) (h0 : (pc : Int) + d = (dn : Int)) (hn : (offs.size : Int) = hi - lo + 1) (ht : ∀ i, i < offs.size → ((offs[i]?).map (fun o => (pc : Int) + o)) = some ((tg.getD i 0 : Nat) : Int)) : cf_S l R cc nL own pc (cf_tsw lo hi dn tg) := by
  intro Z hC L st w
  obtain ⟨p, e, s, m, args, below, meth, c, cells, slots, Q, D, cA, ad, A⟩ := Z
  obtain ⟨hx, hb, hml, hown, hB, hK, hD, hc1, hc2⟩ := hC
  refine ⟨fun b h k => ?_, fun q h => ?_⟩
  · unfold cf_tsw at h
    split at h
    · rename_i x r
      obtain rfl := Sum.inl.inj (Option.some.inj h)
      intro H locs ls hL hP hS
      by_cases hq : x.toInt < lo ∨ hi < x.toInt
      · rw [if_pos hq] at k
        exact lv_tableOut hx hb hd hq h0 (k H locs ls hL hP hS)
      · rw [if_neg hq] at k
        have hq1 : ¬ x.toInt < lo := fun z => hq (Or.inl z)
        have hq2 : ¬ hi < x.toInt := fun z => hq (Or.inr z)
        have hlt : (x.toInt - lo).toNat < offs.size := by omega
        have e := ht _ hlt
        obtain ⟨o, ho, ho2⟩ := Option.map_eq_some_iff.mp e
        exact lv_tableIn hx hb hd hq1 hq2 ho ho2 (k H locs ls hL hP hS)
    · cases h
  · unfold cf_tsw at h
    split at h <;> cases h
end Rows
end
section
/-! contracts over the one world, and calls -/
def cf_Q (D : va_G) (cA : ClassId) (ad : Nat → Nat) (q : cf_Rs) : Array Value → State → Outcome → State → Prop := match q.1 with
  | some (.inl x) => va_Qi (fun (r : Int32) (_ : Unit) => r = x) (fun _ t => va_P D cf_cls (cf_ws cA ad q.2) t.heap) (cf_A ad)
  | some (.inr _) => fun _ _ _ _ => False
  | none => va_Qv (fun (_ : Unit) => True) (fun _ t => va_P D cf_cls (cf_ws cA ad q.2) t.heap) (cf_A ad)
def cf_U (D : va_G) (cA : ClassId) (ad : Nat → Nat) (w : cf_Wd) (U : State) : Prop := va_P D cf_cls (cf_ws cA ad w) U.heap ∧ va_K D cf_cls [(cA, .int)] U ∧ cf_B U
def cf_rm (d : Nat) : Room := { frames := d, cells := 0, slots := 0, locals := 36 * d }
def cf_Ct (l : Launch) (y : MethodName) (cc : ByteArray) (nL : Nat) (ret : Option FieldType) (d : Nat) (as : List cf_AV) (w : cf_Wd) (q : cf_Rs) : Prop :=
  ∀ (D : va_G) (cA : ClassId) (ad : Nat → Nat), (∀ i j, i < 26 → j < 26 → ad i = ad j → i = j) → Met l y [.code y cc nL ret] (cf_rm d) (va_Pc (as.map (cf_v ad)) (cf_U D cA ad w)) (cf_Q D cA ad q) 0 0 (cf_A ad)
theorem cf_blind {av : List Value} {D : va_G} {cA : ClassId} {ad : Nat → Nat} {w : cf_Wd} : FrameBlind (va_Pc av (cf_U D cA ad w)) := fun a U g mk q =>
  ⟨q.1, q.2.1, va_K.moved (u := U) (U := U.calling g mk a) (Vm.Alike.refl U.vm) q.2.2.1, cf_B.same (u := U) (U := U.calling g mk a) rfl q.2.2.2⟩
theorem cf_sum (ad : Nat → Nat) : ∀ r : List cf_AV, ((r.map (cf_v ad)).map fun v => v.category).sum = r.length := by
  intro r
  induction r with
  | nil => rfl
  | cons a r ih =>
    simp only [List.map_cons, List.sum_cons, List.length_cons]
    rw [ih, cf_v_cat]
    omega
section Calls
variable {l : Launch} {R : Room} {cc : ByteArray} {nL : Nat} {own : String} {pc : Nat} {idx n d nC ci N : Nat} {y : MethodName} {bytes : ByteArray} {ret : Option FieldType} {C : String} {T : u_T} {F : List cf_AV → cf_Wd → Option cf_Rs}
/-- behind a call that ran -/
theorem cf_after {p : Program} {e : Env} {s : State} {m : MethodId} {args : Array Value} {below : List Frame} {meth : Method} {c : Code} {cells slots : Nat} {Q : State → Prop} {D : va_G} {cA : ClassId} {ad : Nat → Nat} {A : Nat → Prop} {H : Heap} {locs : List Loc} {ls : Array Slot} {L : List (Option cf_AV)} {st0 : List Value} {rest : List cf_AV} {q : cf_Rs} {a : Array Value}
    (hD : cf_D A ad) (hL : cf_L ad ls nL L) (hS : va_S A s.heap H locs)
    (hr : va_Run p l e R s m args below meth c H locs cells slots 0 0 (F0 m pc ls st0) (rest.map (cf_v ad)) (cf_Q D cA ad q a) (cf_A ad))
    (k : cf_R l R nL (p, e, s, m, args, below, meth, c, cells, slots, Q, D, cA, ad, A) (pc + 3, L, q.1.toList ++ rest, q.2)) : W p l e R s m args below meth c H locs cells slots Q (F0 m pc ls st0) := by
  have hA : ∀ x, cf_A ad x → A x := fun x ⟨j, hj, ex⟩ => ex ▸ hD.2 j hj
  obtain ⟨v, w⟩ := q
  cases v with
  | none =>
    have hr' : va_Run p l e R s m args below meth c H locs cells slots 0 0 (F0 m pc ls st0) (rest.map (cf_v ad)) (va_Qv (fun (_ : Unit) => True) (fun _ t => va_P D cf_cls (cf_ws cA ad w) t.heap) (cf_A ad) a) (cf_A ad) := hr
    exact va_callv hr' hS (fun x _ hx => hA x hx) hA (fun u t H1 locs1 ht hvm hp hB1 hz hk hS1 => k H1 locs1 ls hL (by rw [← ht]; exact hB1) hS1)
  | some v =>
    cases v with
    | inl x =>
      have hr' : va_Run p l e R s m args below meth c H locs cells slots 0 0 (F0 m pc ls st0) (rest.map (cf_v ad)) (va_Qi (fun (r : Int32) (_ : Unit) => r = x) (fun _ t => va_P D cf_cls (cf_ws cA ad w) t.heap) (cf_A ad) a) (cf_A ad) := hr
      refine va_calli hr' hS (fun x _ hx => hA x hx) hA (fun r u t H1 locs1 ht hvm hp hB1 hz hk hS1 => ?_)
      have hp : r = x := hp
      subst hp
      exact k H1 locs1 ls hL (by rw [← ht]; exact hB1) hS1
    | inr z =>
      intro T0 hT X
      obtain ⟨_, _, _, _, _, _, _, _, _, _, hq, _⟩ := hr T0 hT X
      exact hq.elim
theorem cf_S_callV (hM : ∀ as w q, F as w = some q → cf_Ct l y bytes nC ret d as w q) (hF : ∀ as w q, F as w = some q → ∃ (k : Nat) (as' : List cf_AV) (fs : List (Option Nat)), as = .inr k :: as' ∧ as'.length = n ∧ cf_shp k = .inr (ci, fs))
    (hc : cf_cls[ci]? = some (C, T, N)) (hcode : Cond.code y bytes nC ret ∈ lw_tbl) (hlink : Cond.methodLink own idx y ∈ lw_tbl) (hinst : Cond.instanceMethod y ∈ lw_tbl) (hsel : Cond.selects C y y ∈ lw_tbl) (hini : Cond.initialized y.cls ∈ lw_tbl)
    (hy : (y.cls ≠ "java/lang/invoke/MethodHandle" ∧ y.cls ≠ "java/lang/invoke/VarHandle") ∧ (parseMethodDescriptor y.desc).map (fun d => d.parameters.length) = some n) (hR : d + 1 ≤ R.frames ∧ 8 + (nC + 11) + 36 * d ≤ R.locals)
    (hd : decode cc pc = .ok (.invokevirtual idx, 3)) : cf_S l R cc nL own pc (cf_call (n + 1) F (pc + 3)) := by
  intro Z hC L st w
  obtain ⟨p, e, s, m, args, below, meth, c, cells, slots, Q, D, cA, ad, A⟩ := Z
  obtain ⟨hx, hb, hml, hown, hB, hK, hD, hc1, hc2⟩ := hC
  refine ⟨fun b h k => ?_, fun q h => ?_⟩
  · unfold cf_call at h
    cases hg : Nat.ble (st.drop (n + 1)).length 8 with
    | false => rw [hg] at h; exact nomatch h
    | true =>
      rw [hg] at h
      simp only [cond_true] at h
      cases hq : F (st.take (n + 1)).reverse w with
      | none => rw [hq] at h; cases h
      | some q =>
        rw [hq] at h
        obtain rfl := Sum.inl.inj (Option.some.inj h)
        obtain ⟨k0, as', fs, e1, e2, hs⟩ := hF _ _ _ hq
        have hm := hM _ _ _ hq D cA ad hD.1
        rw [e1] at hm
        have e3 : st.take (n + 1) = as'.reverse ++ [.inr k0] := by
          have := congrArg List.reverse e1
          rw [List.reverse_reverse, List.reverse_cons] at this
          exact this
        have est : st = as'.reverse ++ .inr k0 :: st.drop (n + 1) := by
          have h3 := List.take_append_drop (n + 1) st
          rw [e3, List.append_assoc] at h3
          exact h3.symm
        have hlen : (st.drop (n + 1)).length ≤ 8 := Nat.le_of_ble_eq_true hg
        intro H locs ls hL hP hS
        generalize st.drop (n + 1) = rest at *
        have h26 : k0 < 26 := cf_shp_o hs
        have hat : (cf_ws cA ad w)[k0]? = some (ad k0, .inr (ci, cf_fv ad (w k0) 0 fs)) := by rw [cf_ws_at, if_pos h26, cf_cel_o hs]
        have hcb : CallB R s args own idx y bytes nC ret [.code y bytes nC ret] (cf_rm d) 0 0 n := ⟨rfl, rfl, hR.1, hR.2, fun w9 hw9 a' U hW => by rw [List.mem_singleton.mp hw9]; exact word_at hW (Or.inl rfl) (hB.use hcode rfl args), List.mem_cons_self, hB.use hcode rfl args, hB.use hini rfl args, hy.1, fun sig h9 => by
          have h8 := hy.2
          rw [h9] at h8
          exact (Option.some.inj h8).symm, hB.use hlink rfl args⟩
        have hstk : (st.map (cf_v ad)) = (as'.map (cf_v ad)).reverse ++ .ref (ad k0) :: rest.map (cf_v ad) := by
          rw [est]; simp [cf_v]
        refine cf_after hD hL hS (va_runV (Ts := []) (As := as'.map (cf_v ad)) (rest := rest.map (cf_v ad)) ⟨hx, hb, hml, hown, fun _ h9 => by cases h9⟩ hm ⟨hcb, hB.use hinst rfl args, hB.use hsel rfl args⟩ ⟨cf_blind, va_recv hK hP hc hat, fun U hU hW => ⟨rfl, by rw [hU]; exact hP, va_K.moved hW.alike hK, hB.warm hW⟩⟩ rfl (by rw [List.length_map]; exact e2) hL.1 hstk (lv_room (by rw [cf_sum]; exact hlen)) hd ⟨hc1, hc2⟩) k
  · unfold cf_call at h
    cases hg : Nat.ble (st.drop (n + 1)).length 8 with
    | false => rw [hg] at h; exact nomatch h
    | true =>
      rw [hg] at h
      simp only [cond_true] at h
      cases hq : F (st.take (n + 1)).reverse w <;> rw [hq] at h <;> cases h
theorem cf_S_callS (hM : ∀ as w q, F as w = some q → cf_Ct l y bytes nC ret d as w q) (hF : ∀ as w q, F as w = some q → as.length = n)
    (hcode : Cond.code y bytes nC ret ∈ lw_tbl) (hlink : Cond.methodLink own idx y ∈ lw_tbl) (hsta : Cond.static y ∈ lw_tbl) (hini : Cond.initialized y.cls ∈ lw_tbl)
    (hy : (y.cls ≠ "java/lang/invoke/MethodHandle" ∧ y.cls ≠ "java/lang/invoke/VarHandle") ∧ (parseMethodDescriptor y.desc).map (fun d => d.parameters.length) = some n) (hR : d + 1 ≤ R.frames ∧ 8 + (nC + 11) + 36 * d ≤ R.locals)
    (hd : decode cc pc = .ok (.invokestatic idx, 3)) : cf_S l R cc nL own pc (cf_call n F (pc + 3)) := by
  intro Z hC L st w
  obtain ⟨p, e, s, m, args, below, meth, c, cells, slots, Q, D, cA, ad, A⟩ := Z
  obtain ⟨hx, hb, hml, hown, hB, hK, hD, hc1, hc2⟩ := hC
  refine ⟨fun b h k => ?_, fun q h => ?_⟩
  · unfold cf_call at h
    cases hg : Nat.ble (st.drop n).length 8 with
    | false => rw [hg] at h; exact nomatch h
    | true =>
      rw [hg] at h
      simp only [cond_true] at h
      cases hq : F (st.take n).reverse w with
      | none => rw [hq] at h; cases h
      | some q =>
        rw [hq] at h
        obtain rfl := Sum.inl.inj (Option.some.inj h)
        have e2 := hF _ _ _ hq
        have hm := hM _ _ _ hq D cA ad hD.1
        have est : st = (st.take n).reverse.reverse ++ st.drop n := by rw [List.reverse_reverse, List.take_append_drop]
        have hlen : (st.drop n).length ≤ 8 := Nat.le_of_ble_eq_true hg
        intro H locs ls hL hP hS
        generalize st.drop n = rest at *
        generalize (st.take n).reverse = as' at *
        have hcb : CallB R s args own idx y bytes nC ret [.code y bytes nC ret] (cf_rm d) 0 0 n := ⟨rfl, rfl, hR.1, hR.2, fun w9 hw9 a' U hW => by rw [List.mem_singleton.mp hw9]; exact word_at hW (Or.inl rfl) (hB.use hcode rfl args), List.mem_cons_self, hB.use hcode rfl args, hB.use hini rfl args, hy.1, fun sig h9 => by
          have h8 := hy.2
          rw [h9] at h8
          exact (Option.some.inj h8).symm, hB.use hlink rfl args⟩
        have hstk : (st.map (cf_v ad)) = (as'.map (cf_v ad)).reverse ++ rest.map (cf_v ad) := by
          rw [est]; simp
        refine cf_after hD hL hS (va_runS (Ts := []) (As := as'.map (cf_v ad)) (rest := rest.map (cf_v ad)) ⟨hx, hb, hml, hown, fun _ h9 => by cases h9⟩ hm ⟨hcb, hB.use hsta rfl args⟩ ⟨cf_blind, fun U hU hW => ⟨rfl, by rw [hU]; exact hP, va_K.moved hW.alike hK, hB.warm hW⟩⟩ rfl (by rw [List.length_map]; exact e2) hL.1 hstk (lv_room (by rw [cf_sum]; exact hlen)) hd ⟨hc1, hc2⟩) k
  · unfold cf_call at h
    cases hg : Nat.ble (st.drop n).length 8 with
    | false => rw [hg] at h; exact nomatch h
    | true =>
      rw [hg] at h
      simp only [cond_true] at h
      cases hq : F (st.take n).reverse w <;> rw [hq] at h <;> cases h
end Calls
/-! a method's contract out of its runs -/
def cf_ok (ret : Option FieldType) (q : cf_Rs) : Prop := match q.1 with
  | some (.inl x) => ret = some .int ∨ (ret = some .boolean ∧ (x = 0 ∨ x = 1))
  | some (.inr _) => False
  | none => ret = none
def cf_L0 (nL : Nat) (as : List cf_AV) : List (Option cf_AV) := as.map some ++ List.replicate (nL - as.length) none
theorem cf_lv_none (ad : Nat → Nat) : ∀ (k i : Nat), cf_lv ad i (List.replicate k none) = [] := by
  intro k
  induction k with
  | zero => intro i; rfl
  | succ k ih => intro i; rw [List.replicate_succ]; simp only [cf_lv]; exact ih (i + 1)
theorem cf_lv_args (ad : Nat → Nat) (k : Nat) : ∀ (as : List cf_AV) (i : Nat), cf_lv ad i (as.map some ++ List.replicate k none) = lv_args i (as.map (cf_v ad)) := by
  intro as
  induction as with
  | nil => intro i; exact cf_lv_none ad k i
  | cons a r ih =>
    intro i
    simp only [List.map_cons, List.cons_append, cf_lv, lv_args]
    rw [cf_v_cat, if_neg (by decide), ih (i + 1)]
theorem cf_sl (ad : Nat → Nat) : ∀ as : List cf_AV, (lg_sl (as.map (cf_v ad))).length = as.length := by
  intro as
  induction as with
  | nil => rfl
  | cons a r ih =>
    have e : lg_sl ((a :: r).map (cf_v ad)) = Slot.val (cf_v ad a) :: lg_sl (r.map (cf_v ad)) := by
      simp [lg_sl, cf_v_cat]
    rw [e, List.length_cons, ih, List.length_cons]
theorem cf_Ct.of {l : Launch} {y : MethodName} {cc : ByteArray} {nL d : Nat} {ret : Option FieldType} {as : List cf_AV} {w : cf_Wd} {q : cf_Rs} {T : Nat → cf_Rw} (hT : ∀ pc, cf_S l (cf_rm d) cc nL y.cls pc (T pc)) (hpl : plainName y.cls = true) (hret : cf_ok ret q) (hlen : as.length ≤ nL) (hr : cf_Runs T (0, cf_L0 nL as, [], w) q) : cf_Ct l y cc nL ret d as w q := by
  intro D cA ad inj
  refine Met.ofW (cc := cc) (maxL := nL) (ret := ret) hpl rfl ?_
  intro p e s m args below meth c s₁ B hml hv
  obtain ⟨rfl, hP, hK, hBs⟩ := hv
  have hown : s.vm.findClass y.cls = some m.cls := findClass_of_methodNamed B.named
  have hlk := B.notSynchronized
  have hx := B.exec
  have hb := B.bytes
  have hrt := B.returns
  have hC : cf_C (cf_rm d) cc nL y.cls (p, e, s, m, (as.map (cf_v ad)).toArray, below, meth, c, 0, 0, MQ below (cf_Q D cA ad q) (as.map (cf_v ad)).toArray s 0 0 (cf_A ad), D, cA, ad, cf_A ad) := ⟨hx, hb, hml, hown, hBs, hK, ⟨inj, fun k hk => ⟨k, hk, rfl⟩⟩, Nat.zero_le _, Nat.zero_le _⟩
  have hfin : cf_Fin l (cf_rm d) cc (p, e, s, m, (as.map (cf_v ad)).toArray, below, meth, c, 0, 0, MQ below (cf_Q D cA ad q) (as.map (cf_v ad)).toArray s 0 0 (cf_A ad), D, cA, ad, cf_A ad) q := by
    obtain ⟨v, w2⟩ := q
    cases v with
    | none =>
      intro H locs ls pc hd hP2 hS
      have hret : ret = none := hret
      subst hret
      exact W.vret hx hb hrt (fun t ht hW => ⟨⟨(), rfl, trivial, by show va_P D cf_cls (cf_ws cA ad w2) t.heap; rw [ht]; exact hP2⟩, hS.F ht⟩) hS.2.2 hd hlk
    | some v =>
      cases v with
      | inr z => exact hret.elim
      | inl x =>
        intro H locs ls pc hd hP2 hS
        rcases hret with hret | ⟨hret, h01⟩
        · subst hret
          exact W.zret (ty := .int) hx hb hrt rfl (fun t ht hW => ⟨⟨x, (), rfl, rfl, by show va_P D cf_cls (cf_ws cA ad w2) t.heap; rw [ht]; exact hP2⟩, hS.F ht⟩) hS.2.2 hd hlk
        · subst hret
          exact W.zret (ty := .boolean) hx hb hrt (by rcases h01 with rfl | rfl <;> rfl) (fun t ht hW => ⟨⟨x, (), rfl, rfl, by show va_P D cf_cls (cf_ws cA ad w2) t.heap; rw [ht]; exact hP2⟩, hS.F ht⟩) hS.2.2 hd hlk
  have key := hr (cf_R l (cf_rm d) nL (p, e, s, m, (as.map (cf_v ad)).toArray, below, meth, c, 0, 0, MQ below (cf_Q D cA ad q) (as.map (cf_v ad)).toArray s 0 0 (cf_A ad), D, cA, ad, cf_A ad)) (fun a b h k => (hT a.1 _ hC a.2.1 a.2.2.1 a.2.2.2).1 b h k) (fun a h => (hT a.1 _ hC a.2.1 a.2.2.1 a.2.2.2).2 q h hfin)
  have hl := lv_entry (as.map (cf_v ad)) (n := nL) (by rw [cf_sl]; exact hlen)
  rw [lg_entry_eq]
  refine key s.heap [] _ ?_ hP va_S.rf
  show lv_has _ nL (cf_lv ad 0 (as.map some ++ List.replicate (nL - as.length) none))
  rw [cf_lv_args]
  exact hl
end
section
theorem cf_mem {w : Cond} (i : Nat) (h : lw_tbl[i]? = some w) : w ∈ lw_tbl := List.mem_of_getElem? h
theorem cf_S_node {l : Launch} {R : Room} {cc : ByteArray} {nL : Nat} {own : String} {pc : Nat} {b : Bool} {f g : cf_Rw} (hf : cf_S l R cc nL own pc f) (hg : cf_S l R cc nL own pc g) : cf_S l R cc nL own pc (bif b then f else g) := by
  cases b
  · exact hg
  · exact hf
theorem cf_S_leaf {l : Launch} {R : Room} {cc : ByteArray} {nL : Nat} {own : String} {pc K : Nat} {f : cf_Rw} (hf : cf_S l R cc nL own K f) : cf_S l R cc nL own pc (bif Nat.beq pc K then f else cf_stuck) := by
  cases hb : Nat.beq pc K with
  | false => exact cf_S_stuck
  | true =>
    have e : pc = K := Nat.eq_of_beq_eq_true hb
    subst e
    exact hf
theorem cf_nonneg {z : Int32} (h : 0 ≤ z.toInt) : ¬ z < 0 := by
  intro hz
  have := Int32.lt_iff_toInt_lt.mp hz
  have h0 : (0 : Int32).toInt = 0 := by decide
  omega
theorem cf_S_cpy {l : Launch} {R : Room} {cc : ByteArray} {nL : Nat} {own : String} {pc idx : Nat} (hlink : Cond.methodLink own idx arraycopyName ∈ lw_tbl) (hnat : Cond.native arraycopyName ∈ lw_tbl) (hsta : Cond.static arraycopyName ∈ lw_tbl) (hini : Cond.initialized "java/lang/System" ∈ lw_tbl)
    (hR : 1 ≤ R.frames ∧ 8 + (nativeFrameWords "java/lang/System" "arraycopy" 5 + 11) ≤ R.locals) (hd : decode cc pc = .ok (.invokestatic idx, 3)) : cf_S l R cc nL own pc (cf_cpy (pc + 3)) := by
  intro Z hC L st w
  obtain ⟨p, e, s, m, args, below, meth, c, cells, slots, Q, D, cA, ad, A⟩ := Z
  obtain ⟨hx, hb, hml, hown, hB, hK, hD, hc1, hc2⟩ := hC
  refine ⟨fun b h k => ?_, fun q h => ?_⟩
  · unfold cf_cpy at h
    split at h
    · rename_i n dp k1 sp k0 r
      split at h
      · rename_i N N0 hs1 hs0
        cases hg : (decide (0 ≤ n.toInt) && decide (0 ≤ dp.toInt) && decide (0 ≤ sp.toInt) && decide (sp.toInt + n.toInt ≤ (N0 : Int)) && decide (dp.toInt + n.toInt ≤ (N : Int)) && Nat.ble r.length 8 && Nat.blt k1 26 && Nat.blt k0 26) with
        | false => rw [hg] at h; exact nomatch h
        | true =>
          rw [hg] at h
          obtain rfl := Sum.inl.inj (Option.some.inj h)
          simp only [Bool.and_eq_true, decide_eq_true_eq] at hg
          obtain ⟨⟨⟨⟨⟨⟨⟨g1, g2⟩, g3⟩, g4⟩, g5⟩, g6⟩, g7⟩, g8⟩ := hg
          have g6 : r.length ≤ 8 := Nat.le_of_ble_eq_true g6
          intro H locs ls hL hP hS
          have hb1 : k1 < 26 ∧ k0 < 26 := ⟨by simpa using g7, by simpa using g8⟩
          have hat1 : (cf_ws cA ad w)[k1]? = some (ad k1, .inl (cA, N, .inl (w k1))) := by rw [cf_ws_at, if_pos hb1.1, cf_cel_a hs1]
          have hat0 : (cf_ws cA ad w)[k0]? = some (ad k0, .inl (cA, N0, .inl (w k0))) := by rw [cf_ws_at, if_pos hb1.2, cf_cel_a hs0]
          refine va_copyi hx hb (hml.trans hL.1.symm) hown (hB.use hlink rfl args) (hB.use hnat rfl args) (hB.use hsta rfl args) (hB.use hini rfl args) hK hP (hD.va cA w) hS k0 k1 0 0 hat0 hat1 rfl rfl rfl (cf_nonneg g3) (cf_nonneg g2) (cf_nonneg g1) ?_ ?_ (fun _ _ => rfl) hR.1 ?_ hd (fun H1 locs1 hP1 hD1 hS1 => k H1 locs1 ls hL (by rw [cf_set_a _ hs1] at hP1; exact hP1) hS1)
          · show sp.toInt.toNat + n.toInt.toNat ≤ N0
            omega
          · show dp.toInt.toNat + n.toInt.toNat ≤ N
            omega
          · rw [cf_sum]
            omega
      · cases h
    · cases h
  · unfold cf_cpy at h
    split at h
    · rename_i n dp k1 sp k0 r
      split at h
      · rename_i N N0 hs1 hs0
        cases hg : (decide (0 ≤ n.toInt) && decide (0 ≤ dp.toInt) && decide (0 ≤ sp.toInt) && decide (sp.toInt + n.toInt ≤ (N0 : Int)) && decide (dp.toInt + n.toInt ≤ (N : Int)) && Nat.ble r.length 8 && Nat.blt k1 26 && Nat.blt k0 26) <;> rw [hg] at h <;> cases h
      · cases h
    · cases h
theorem cf_la0 : ∀ w ∈ u_ws "CulpritFinder$History" cf_T0 5, w ∈ lw_tbl ∧ cf_g w = true := by
  have h : u_ws "CulpritFinder$History" cf_T0 5 = [67, 69, 71, 73, 75].filterMap (fun i => lw_tbl[i]?) := by decide +kernel
  have h2 : (u_ws "CulpritFinder$History" cf_T0 5).all cf_g = true := by decide +kernel
  intro w hw
  refine ⟨?_, List.all_eq_true.mp h2 w hw⟩
  rw [h] at hw
  obtain ⟨i, -, hi⟩ := List.mem_filterMap.mp hw
  exact List.mem_of_getElem? hi
theorem cf_la1 : ∀ w ∈ u_ws "CulpritFinder$Machine" cf_T1 4, w ∈ lw_tbl ∧ cf_g w = true := by
  have h : u_ws "CulpritFinder$Machine" cf_T1 4 = [89, 91, 93, 95].filterMap (fun i => lw_tbl[i]?) := by decide +kernel
  have h2 : (u_ws "CulpritFinder$Machine" cf_T1 4).all cf_g = true := by decide +kernel
  intro w hw
  refine ⟨?_, List.all_eq_true.mp h2 w hw⟩
  rw [h] at hw
  obtain ⟨i, -, hi⟩ := List.mem_filterMap.mp hw
  exact List.mem_of_getElem? hi
theorem cf_la2 : ∀ w ∈ u_ws "CulpritFinder$Reduction" cf_T2 3, w ∈ lw_tbl ∧ cf_g w = true := by
  have h : u_ws "CulpritFinder$Reduction" cf_T2 3 = [114, 116, 118].filterMap (fun i => lw_tbl[i]?) := by decide +kernel
  have h2 : (u_ws "CulpritFinder$Reduction" cf_T2 3).all cf_g = true := by decide +kernel
  intro w hw
  refine ⟨?_, List.all_eq_true.mp h2 w hw⟩
  rw [h] at hw
  obtain ⟨i, -, hi⟩ := List.mem_filterMap.mp hw
  exact List.mem_of_getElem? hi
theorem cf_la3 : ∀ w ∈ u_ws "CulpritFinder$Search" cf_T3 17, w ∈ lw_tbl ∧ cf_g w = true := by
  have h : u_ws "CulpritFinder$Search" cf_T3 17 = [146, 148, 150, 152, 154, 156, 158, 160, 162, 164, 166, 168, 170, 172, 174, 176, 178].filterMap (fun i => lw_tbl[i]?) := by decide +kernel
  have h2 : (u_ws "CulpritFinder$Search" cf_T3 17).all cf_g = true := by decide +kernel
  intro w hw
  refine ⟨?_, List.all_eq_true.mp h2 w hw⟩
  rw [h] at hw
  obtain ⟨i, -, hi⟩ := List.mem_filterMap.mp hw
  exact List.mem_of_getElem? hi
theorem cf_la4 : ∀ w ∈ u_ws "CulpritFinder" cf_T4 3, w ∈ lw_tbl ∧ cf_g w = true := by
  have h : u_ws "CulpritFinder" cf_T4 3 = [184, 186, 188].filterMap (fun i => lw_tbl[i]?) := by decide +kernel
  have h2 : (u_ws "CulpritFinder" cf_T4 3).all cf_g = true := by decide +kernel
  intro w hw
  refine ⟨?_, List.all_eq_true.mp h2 w hw⟩
  rw [h] at hw
  obtain ⟨i, -, hi⟩ := List.mem_filterMap.mp hw
  exact List.mem_of_getElem? hi
theorem cf_la5 : ∀ w ∈ u_ws "CulpritFinderModel" cf_T5 24, w ∈ lw_tbl ∧ cf_g w = true := by
  have h : u_ws "CulpritFinderModel" cf_T5 24 = [485, 487, 489, 491, 493, 495, 497, 499, 501, 503, 505, 507, 509, 511, 513, 515, 517, 519, 521, 523, 525, 527, 529, 531].filterMap (fun i => lw_tbl[i]?) := by decide +kernel
  have h2 : (u_ws "CulpritFinderModel" cf_T5 24).all cf_g = true := by decide +kernel
  intro w hw
  refine ⟨?_, List.all_eq_true.mp h2 w hw⟩
  rw [h] at hw
  obtain ⟨i, -, hi⟩ := List.mem_filterMap.mp hw
  exact List.mem_of_getElem? hi
end
section
/-! what a run comes to: the weakest premise; a method as a function, by its table of rows -/
def cf_K (T : Nat → cf_Rw) (r : Option (cf_Cfg ⊕ cf_Rs)) (q : cf_Rs) : Prop := match r with
  | some (.inl b) => cf_Runs T b q
  | some (.inr q1) => q1 = q
  | none => False
theorem cf_go {T : Nat → cf_Rw} {a : cf_Cfg} {q : cf_Rs} : cf_Runs T a q ↔ cf_K T (cf_st T a) q := by
  constructor
  · intro h
    have h2 : cf_K T (cf_st T a) q ∧ cf_Runs T a q := by
      refine h (fun x => cf_K T (cf_st T x) q ∧ cf_Runs T x q) (fun a b e hb => ⟨?_, cf_Runs.one e hb.2⟩) (fun a e => ⟨?_, cf_Runs.fin e⟩)
      · have e2 : cf_st T a = some (.inl b) := e
        rw [e2]
        exact hb.2
      · have e2 : cf_st T a = some (.inr q) := e
        rw [e2]
        exact rfl
    exact h2.1
  · intro h
    cases hs : cf_st T a with
    | none => rw [hs] at h; exact h.elim
    | some o =>
      cases o with
      | inl b => rw [hs] at h; exact cf_Runs.one hs h
      | inr q1 =>
        rw [hs] at h
        have e : q1 = q := h
        subst e
        exact cf_Runs.fin hs
theorem cf_Runs.det {T : Nat → cf_Rw} {a : cf_Cfg} {q : cf_Rs} (h : cf_Runs T a q) : ∀ q1, cf_Runs T a q1 → q1 = q := by
  refine h (fun x => ∀ q1, cf_Runs T x q1 → q1 = q) (fun a b e ih q1 h1 => ih q1 ?_) (fun a e q1 h1 => ?_)
  · have e2 : cf_st T a = some (.inl b) := e
    have h2 := cf_go.mp h1
    rw [e2] at h2
    exact h2
  · have e2 : cf_st T a = some (.inr q) := e
    have h2 := cf_go.mp h1
    rw [e2] at h2
    have h3 : q = q1 := h2
    exact h3.symm
def cf_wp (T : Nat → cf_Rw) (a : cf_Cfg) (Q : cf_Rs → Prop) : Prop := ∃ q, cf_Runs T a q ∧ Q q
theorem cf_w1 {T : Nat → cf_Rw} {a b : cf_Cfg} {Q : cf_Rs → Prop} (h : cf_st T a = some (.inl b)) : cf_wp T a Q ↔ cf_wp T b Q := by
  constructor
  · intro ⟨q, h1, h2⟩
    have h3 := cf_go.mp h1
    rw [h] at h3
    exact ⟨q, h3, h2⟩
  · intro ⟨q, h1, h2⟩
    exact ⟨q, cf_Runs.one h h1, h2⟩
theorem cf_w0 {T : Nat → cf_Rw} {a : cf_Cfg} {Q : cf_Rs → Prop} (h : cf_st T a = none) : ¬ cf_wp T a Q := by
  intro ⟨q, h1, h2⟩
  have h3 := cf_go.mp h1
  rw [h] at h3
  exact h3
theorem cf_wi {T : Nat → cf_Rw} {a b1 b2 : cf_Cfg} {Q : cf_Rs → Prop} {c : Prop} [inst : Decidable c] (h : cf_st T a = some (.inl (if c then b1 else b2))) : cf_wp T a Q ↔ (if c then cf_wp T b1 Q else cf_wp T b2 Q) := by
  by_cases hc : c
  · rw [if_pos hc] at h
    rw [if_pos hc]
    exact cf_w1 h
  · rw [if_neg hc] at h
    rw [if_neg hc]
    exact cf_w1 h
theorem cf_wg {T : Nat → cf_Rw} {a b : cf_Cfg} {Q : cf_Rs → Prop} {g : Bool} (h : cf_st T a = bif g then some (.inl b) else none) : cf_wp T a Q ↔ (g = true ∧ cf_wp T b Q) := by
  cases g with
  | false =>
    have h' : cf_st T a = none := h
    exact ⟨fun x => (cf_w0 h' x).elim, fun x => nomatch x.1⟩
  | true =>
    have h' : cf_st T a = some (.inl b) := h
    exact ⟨fun x => ⟨rfl, (cf_w1 h').mp x⟩, fun x => (cf_w1 h').mpr x.2⟩
theorem cf_wr {T : Nat → cf_Rw} {a : cf_Cfg} {q : cf_Rs} {Q : cf_Rs → Prop} (h : cf_st T a = some (.inr q)) : cf_wp T a Q ↔ Q q := by
  constructor
  · intro ⟨q1, h1, h2⟩
    have h3 := cf_go.mp h1
    rw [h] at h3
    have h4 : q = q1 := h3
    rw [h4]
    exact h2
  · intro h2
    exact ⟨q, cf_Runs.fin h, h2⟩
theorem cf_wc {T : Nat → cf_Rw} {pc n nx : Nat} {F : List cf_AV → cf_Wd → Option cf_Rs} {L : List (Option cf_AV)} {st : List cf_AV} {w : cf_Wd} {Q : cf_Rs → Prop} (hT : T pc = cf_call n F nx) (hl : Nat.ble (st.drop n).length 8 = true) : cf_wp T (pc, L, st, w) Q ↔ ∃ r, F (st.take n).reverse w = some r ∧ cf_wp T (nx, L, r.1.toList ++ st.drop n, r.2) Q := by
  have e : cf_st T (pc, L, st, w) = (match F (st.take n).reverse w with
    | some q => some (.inl (nx, L, q.1.toList ++ st.drop n, q.2))
    | none => none) := by
    show T pc L st w = _
    rw [hT]
    unfold cf_call
    rw [hl]
    rfl
  constructor
  · intro h
    cases hF : F (st.take n).reverse w with
    | none => rw [hF] at e; exact (cf_w0 e h).elim
    | some r => rw [hF] at e; exact ⟨r, rfl, (cf_w1 e).mp h⟩
  · intro ⟨r, hF, h⟩
    rw [hF] at e
    exact (cf_w1 e).mpr h
theorem cf_wci {T : Nat → cf_Rw} {pc n nx : Nat} {F : List cf_AV → cf_Wd → Option cf_Rs} {L : List (Option cf_AV)} {st : List cf_AV} {w : cf_Wd} {Q : cf_Rs → Prop} (hT : T pc = cf_call n F nx) (hl : Nat.ble (st.drop n).length 8 = true) (hk : ∀ as w q, F as w = some q → ∃ x, q.1 = some (.inl x)) : cf_wp T (pc, L, st, w) Q ↔ ∃ x w1, F (st.take n).reverse w = some (some (.inl x), w1) ∧ cf_wp T (nx, L, .inl x :: st.drop n, w1) Q := by
  refine (cf_wc hT hl).trans ⟨fun ⟨r, h1, h2⟩ => ?_, fun ⟨x, w1, h1, h2⟩ => ⟨_, h1, h2⟩⟩
  obtain ⟨x, hx⟩ := hk _ _ _ h1
  obtain ⟨v, w1⟩ := r
  have hx : v = some (.inl x) := hx
  subst hx
  exact ⟨x, w1, h1, h2⟩
theorem cf_wcv {T : Nat → cf_Rw} {pc n nx : Nat} {F : List cf_AV → cf_Wd → Option cf_Rs} {L : List (Option cf_AV)} {st : List cf_AV} {w : cf_Wd} {Q : cf_Rs → Prop} (hT : T pc = cf_call n F nx) (hl : Nat.ble (st.drop n).length 8 = true) (hk : ∀ as w q, F as w = some q → q.1 = none) : cf_wp T (pc, L, st, w) Q ↔ ∃ w1, F (st.take n).reverse w = some (none, w1) ∧ cf_wp T (nx, L, st.drop n, w1) Q := by
  refine (cf_wc hT hl).trans ⟨fun ⟨r, h1, h2⟩ => ?_, fun ⟨w1, h1, h2⟩ => ⟨_, h1, h2⟩⟩
  have hx := hk _ _ _ h1
  obtain ⟨v, w1⟩ := r
  have hx : v = none := hx
  subst hx
  exact ⟨w1, h1, h2⟩
theorem cf_xi {o : Option cf_Rs} {x1 : Int32} {w1 : cf_Wd} {P : Int32 → cf_Wd → Prop} (hs : o = some (some (.inl x1), w1)) : (∃ x w, o = some (some (.inl x), w) ∧ P x w) ↔ P x1 w1 := by
  constructor
  · intro ⟨x, w, h1, h2⟩
    rw [hs] at h1
    have h3 := Option.some.inj h1
    have h4 : x1 = x := Sum.inl.inj (Option.some.inj (congrArg Prod.fst h3))
    have h5 : w1 = w := congrArg Prod.snd h3
    rw [h4, h5]
    exact h2
  · intro h
    exact ⟨x1, w1, hs, h⟩
theorem cf_xv {o : Option cf_Rs} {w1 : cf_Wd} {P : cf_Wd → Prop} (hs : o = some (none, w1)) : (∃ w, o = some (none, w) ∧ P w) ↔ P w1 := by
  constructor
  · intro ⟨w, h1, h2⟩
    rw [hs] at h1
    have h5 : w1 = w := congrArg Prod.snd (Option.some.inj h1)
    rw [h5]
    exact h2
  · intro h
    exact ⟨w1, hs, h⟩
/-! a method as a function -/
def cf_shV (k0 n : Nat) : List cf_AV → Bool
  | .inr k :: r => Nat.beq k k0 && Nat.beq r.length n
  | _ => false
def cf_shS (n : Nat) (as : List cf_AV) : Bool := Nat.beq as.length n
def cf_Fp (T : Nat → cf_Rw) (nL : Nat) (ret : Option FieldType) (sh : List cf_AV → Bool) (as : List cf_AV) (w : cf_Wd) (q : cf_Rs) : Prop := sh as = true ∧ as.length ≤ nL ∧ cf_ok ret q ∧ cf_Runs T (0, cf_L0 nL as, [], w) q
noncomputable def cf_F (T : Nat → cf_Rw) (nL : Nat) (ret : Option FieldType) (sh : List cf_AV → Bool) (as : List cf_AV) (w : cf_Wd) : Option cf_Rs :=
  @dite (Option cf_Rs) (∃ q, cf_Fp T nL ret sh as w q) (Classical.propDecidable _) (fun h => some h.choose) (fun _ => none)
section Fun
variable {T : Nat → cf_Rw} {nL : Nat} {ret : Option FieldType} {sh : List cf_AV → Bool} {as : List cf_AV} {w : cf_Wd} {q : cf_Rs}
theorem cf_F_some (h : cf_F T nL ret sh as w = some q) : cf_Fp T nL ret sh as w q := by
  unfold cf_F at h
  by_cases hx : ∃ q, cf_Fp T nL ret sh as w q
  · rw [dif_pos hx] at h
    rw [← Option.some.inj h]
    exact hx.choose_spec
  · rw [dif_neg hx] at h
    cases h
theorem cf_F_eq (h : cf_Fp T nL ret sh as w q) : cf_F T nL ret sh as w = some q := by
  unfold cf_F
  have hx : ∃ q, cf_Fp T nL ret sh as w q := ⟨q, h⟩
  rw [dif_pos hx]
  exact congrArg some (h.2.2.2.det _ hx.choose_spec.2.2.2)
theorem cf_F_i : ∀ as w q, cf_F T nL (some .int) sh as w = some q → ∃ x, q.1 = some (.inl x) := by
  intro as w q h
  have h2 := (cf_F_some h).2.2.1
  obtain ⟨v, w1⟩ := q
  cases v with
  | none => exact nomatch h2
  | some v => cases v with
    | inl x => exact ⟨x, rfl⟩
    | inr k => exact h2.elim
theorem cf_F_b : ∀ as w q, cf_F T nL (some .boolean) sh as w = some q → ∃ x, q.1 = some (.inl x) := by
  intro as w q h
  have h2 := (cf_F_some h).2.2.1
  obtain ⟨v, w1⟩ := q
  cases v with
  | none => exact nomatch h2
  | some v => cases v with
    | inl x => exact ⟨x, rfl⟩
    | inr k => exact h2.elim
theorem cf_F_v : ∀ as w q, cf_F T nL none sh as w = some q → q.1 = none := by
  intro as w q h
  have h2 := (cf_F_some h).2.2.1
  obtain ⟨v, w1⟩ := q
  cases v with
  | none => rfl
  | some v => cases v with
    | inl x => rcases h2 with h2 | h2
               · exact nomatch h2
               · exact nomatch h2.1
    | inr k => exact h2.elim
theorem cf_F_ct {l : Launch} {y : MethodName} {cc : ByteArray} {d : Nat} (hT : ∀ pc, cf_S l (cf_rm d) cc nL y.cls pc (T pc)) (hpl : plainName y.cls = true) : ∀ as w q, cf_F T nL ret sh as w = some q → cf_Ct l y cc nL ret d as w q := fun as w q h =>
  cf_Ct.of hT hpl (cf_F_some h).2.2.1 (cf_F_some h).2.1 (cf_F_some h).2.2.2
theorem cf_shS_of {n : Nat} : ∀ as w q, cf_F T nL ret (cf_shS n) as w = some q → as.length = n := fun as w q h => Nat.eq_of_beq_eq_true (cf_F_some h).1
theorem cf_shV_of {k0 n ci : Nat} {fs : List (Option Nat)} (h0 : cf_shp k0 = .inr (ci, fs)) : ∀ as w q, cf_F T nL ret (cf_shV k0 n) as w = some q → ∃ (k : Nat) (as' : List cf_AV) (fs : List (Option Nat)), as = .inr k :: as' ∧ as'.length = n ∧ cf_shp k = .inr (ci, fs) := by
  intro as w q h
  have h1 := (cf_F_some h).1
  unfold cf_shV at h1
  split at h1
  · rename_i k r
    have h2 := Bool.and_eq_true_iff.mp h1
    have e : k = k0 := Nat.eq_of_beq_eq_true h2.1
    subst e
    exact ⟨k, r, fs, rfl, Nat.eq_of_beq_eq_true h2.2, h0⟩
  · cases h1
end Fun
def cf_qi (P : Int32 → cf_Wd → Prop) : cf_Rs → Prop
  | (some (.inl x), w) => P x w
  | _ => False
def cf_qb (P : Int32 → cf_Wd → Prop) : cf_Rs → Prop
  | (some (.inl x), w) => (x = 0 ∨ x = 1) ∧ P x w
  | _ => False
def cf_qv (P : cf_Wd → Prop) : cf_Rs → Prop
  | (none, w) => P w
  | _ => False
section Ent
variable {T : Nat → cf_Rw} {nL : Nat} {sh : List cf_AV → Bool} {as : List cf_AV} {w : cf_Wd} {P : Int32 → cf_Wd → Prop} {Pv : cf_Wd → Prop}
theorem cf_ei (hs : sh as = true) (hl : as.length ≤ nL) (h : cf_wp T (0, cf_L0 nL as, [], w) (cf_qi P)) : ∃ x w1, cf_F T nL (some .int) sh as w = some (some (.inl x), w1) ∧ P x w1 := by
  obtain ⟨⟨v, w1⟩, h1, h2⟩ := h
  cases v with
  | none => exact h2.elim
  | some v => cases v with
    | inr k => exact h2.elim
    | inl x => exact ⟨x, w1, cf_F_eq ⟨hs, hl, Or.inl rfl, h1⟩, h2⟩
theorem cf_eb (hs : sh as = true) (hl : as.length ≤ nL) (h : cf_wp T (0, cf_L0 nL as, [], w) (cf_qb P)) : ∃ x w1, cf_F T nL (some .boolean) sh as w = some (some (.inl x), w1) ∧ P x w1 := by
  obtain ⟨⟨v, w1⟩, h1, h2⟩ := h
  cases v with
  | none => exact h2.elim
  | some v => cases v with
    | inr k => exact h2.elim
    | inl x => exact ⟨x, w1, cf_F_eq ⟨hs, hl, Or.inr ⟨rfl, h2.1⟩, h1⟩, h2.2⟩
theorem cf_ev (hs : sh as = true) (hl : as.length ≤ nL) (h : cf_wp T (0, cf_L0 nL as, [], w) (cf_qv Pv)) : ∃ w1, cf_F T nL none sh as w = some (none, w1) ∧ Pv w1 := by
  obtain ⟨⟨v, w1⟩, h1, h2⟩ := h
  cases v with
  | none => exact ⟨w1, cf_F_eq ⟨hs, hl, rfl, h1⟩, h2⟩
  | some v => exact h2.elim
end Ent
/-- an answer that is known -/
theorem cf_is {o : Option cf_Rs} {x0 : Int32} {w0 : cf_Wd} (h : ∃ x w1, o = some (some (.inl x), w1) ∧ (x = x0 ∧ w1 = w0)) : o = some (some (.inl x0), w0) := by
  obtain ⟨x, w1, h1, h2, h3⟩ := h
  rw [h1, h2, h3]
theorem cf_isv {o : Option cf_Rs} {w0 : cf_Wd} (h : ∃ w1, o = some (none, w1) ∧ w1 = w0) : o = some (none, w0) := by
  obtain ⟨w1, h1, h3⟩ := h
  rw [h1, h3]
theorem cf_alen_e {T : Nat → cf_Rw} {pc nx k N : Nat} {L : List (Option cf_AV)} {st : List cf_AV} {w : cf_Wd} (hk : cf_shp k = .inl N) (h26 : Nat.blt k 26 = true) (hT : T pc = cf_alen nx) : cf_st T (pc, L, .inr k :: st, w) = some (.inl (nx, L, .inl (nI N) :: st, w)) := by
  show T pc L (.inr k :: st) w = _
  rw [hT]
  unfold cf_alen
  simp only [hk, h26, cond_true]
theorem cf_iast_e {T : Nat → cf_Rw} {pc nx k N : Nat} {x i : Int32} {L : List (Option cf_AV)} {st : List cf_AV} {w : cf_Wd} (hk : cf_shp k = .inl N) (hT : T pc = cf_iast nx) : cf_st T (pc, L, .inl x :: .inl i :: .inr k :: st, w) = bif cf_in i N then some (.inl (nx, L, st, cf_wa w k (upd (w k) i.toNatClampNeg x))) else none := by
  show T pc L (.inl x :: .inl i :: .inr k :: st) w = _
  rw [hT]
  unfold cf_iast
  simp only [hk]
theorem cf_tsw_e {T : Nat → cf_Rw} {pc d t : Nat} {lo hi : Int} {tg : List Nat} {x : Int32} {L : List (Option cf_AV)} {st : List cf_AV} {w : cf_Wd} (hT : T pc = cf_tsw lo hi d tg) (ht : (if x.toInt < lo ∨ hi < x.toInt then d else tg.getD (x.toInt - lo).toNat 0) = t) : cf_st T (pc, L, .inl x :: st, w) = some (.inl (t, L, st, w)) := by
  show T pc L (.inl x :: st) w = _
  rw [hT]
  unfold cf_tsw
  simp only [ht]
/-! truth as an int -/
def cf_b (b : Bool) : Int32 := bif b then 1 else 0
theorem cf_b01 (b : Bool) : cf_b b = 0 ∨ cf_b b = 1 := by cases b <;> simp [cf_b]
theorem cf_b_e0 {b : Bool} : (cf_b b = 0) ↔ b = false := by cases b <;> decide
theorem cf_b_e1 {b : Bool} : (cf_b b = 1) ↔ b = true := by cases b <;> decide
theorem cf_b_z (b : Bool) : (cf_b b == 0 || cf_b b == 1) = true := by cases b <;> decide
theorem cf_b_inj {a b : Bool} : (cf_b a = cf_b b) ↔ a = b := by cases a <;> cases b <;> decide
theorem cf_n100 : (!((100 : Int32) == 0)) = true := by decide
theorem cf_n10 : (!((10 : Int32) == 0)) = true := by decide
theorem cf_1n0 : ((1 : Int32) = 0) = False := by simp
theorem cf_z0 : ((0 : Int32) == 0 || (0 : Int32) == 1) = true := by decide
theorem cf_z1 : ((1 : Int32) == 0 || (1 : Int32) == 1) = true := by decide
end
section
/-! ===== Int32 by its bits: bt x i ===== -/
def bt (x : Int32) (i : Nat) : Bool := x.toBitVec.getLsbD i
theorem b_ext {x y : Int32} (h : ∀ i, i < 32 → bt x i = bt y i) : x = y := Int32.toBitVec_inj.mp (BitVec.eq_of_getLsbD_eq (fun i hi => h i hi))
theorem b_or (x y : Int32) (i : Nat) : bt (x ||| y) i = (bt x i || bt y i) := by unfold bt; rw [Int32.toBitVec_or, BitVec.getLsbD_or]
theorem b_and (x y : Int32) (i : Nat) : bt (x &&& y) i = (bt x i && bt y i) := by unfold bt; rw [Int32.toBitVec_and, BitVec.getLsbD_and]
theorem b_xor (x y : Int32) (i : Nat) : bt (x ^^^ y) i = (bt x i ^^ bt y i) := by unfold bt; rw [Int32.toBitVec_xor, BitVec.getLsbD_xor]
theorem b_big {x : Int32} {i : Nat} (h : 32 ≤ i) : bt x i = false := BitVec.getLsbD_of_ge _ _ h
theorem b_255 (i : Nat) : bt 255 i = decide (i < 8) := by
  rcases Nat.lt_or_ge i 32 with h | h
  · exact (by decide +kernel : ∀ i, i < 32 → bt 255 i = decide (i < 8)) i h
  · rw [b_big h, decide_eq_false (by omega)]
theorem b_65535 (i : Nat) : bt 65535 i = decide (i < 16) := by
  rcases Nat.lt_or_ge i 32 with h | h
  · exact (by decide +kernel : ∀ i, i < 32 → bt 65535 i = decide (i < 16)) i h
  · rw [b_big h, decide_eq_false (by omega)]
theorem b_m1 : ∀ i, i < 32 → bt (-1) i = true := by decide +kernel
theorem b_0 (i : Nat) : bt 0 i = false := BitVec.getLsbD_zero
theorem s_l : ∀ n, n < 32 → ((nI n &&& 31).toBitVec.smod 32).toNat = n := by decide +kernel
theorem s_u : ∀ n, n < 32 → (((nI n).toUInt32 &&& Int32.toUInt32 31).toBitVec % 32).toNat = n := by decide +kernel
theorem b_shl (n : Nat) (hn : n < 32) (x : Int32) {i : Nat} (hi : i < 32) : bt (x <<< (nI n &&& 31)) i = (decide (n ≤ i) && bt x (i - n)) := by
  unfold bt
  rw [Int32.toBitVec_shiftLeft]
  show (x.toBitVec <<< ((nI n &&& 31).toBitVec.smod 32).toNat).getLsbD i = _
  rw [s_l n hn, BitVec.getLsbD_shiftLeft]
  rcases Nat.lt_or_ge i n with h | h
  · simp [h, Nat.not_le.mpr h]
  · simp [hi, h, Nat.not_lt.mpr h]
theorem b_ushr (n : Nat) (hn : n < 32) (x : Int32) (i : Nat) : bt ((x.toUInt32 >>> ((nI n).toUInt32 &&& Int32.toUInt32 31)).toInt32) i = bt x (n + i) := by
  show (x.toUInt32 >>> ((nI n).toUInt32 &&& Int32.toUInt32 31)).toBitVec.getLsbD i = x.toUInt32.toBitVec.getLsbD (n + i)
  rw [UInt32.toBitVec_shiftRight]
  show (x.toUInt32.toBitVec >>> (((nI n).toUInt32 &&& Int32.toUInt32 31).toBitVec % 32).toNat).getLsbD i = _
  rw [s_u n hn, BitVec.getLsbD_ushiftRight]
theorem b_sshr (n : Nat) (hn : n < 32) (x : Int32) {i : Nat} (hi : i < 32) : bt (x >>> (nI n &&& 31)) i = if n + i < 32 then bt x (n + i) else bt x 31 := by
  unfold bt
  rw [Int32.toBitVec_shiftRight]
  show (x.toBitVec.sshiftRight ((nI n &&& 31).toBitVec.smod 32).toNat).getLsbD i = _
  rw [s_l n hn, BitVec.getLsbD_sshiftRight, BitVec.msb_eq_getLsbD_last]
  simp [hi]
theorem b_shl8 (x : Int32) {i : Nat} (hi : i < 32) : bt (x <<< ((8 : Int32) &&& 31)) i = (decide (8 ≤ i) && bt x (i - 8)) := b_shl 8 (by omega) x hi
theorem b_shl16 (x : Int32) {i : Nat} (hi : i < 32) : bt (x <<< ((16 : Int32) &&& 31)) i = (decide (16 ≤ i) && bt x (i - 16)) := b_shl 16 (by omega) x hi
theorem b_shl24 (x : Int32) {i : Nat} (hi : i < 32) : bt (x <<< ((24 : Int32) &&& 31)) i = (decide (24 ≤ i) && bt x (i - 24)) := b_shl 24 (by omega) x hi
theorem b_sshr8 (x : Int32) {i : Nat} (hi : i < 32) : bt (x >>> ((8 : Int32) &&& 31)) i = if 8 + i < 32 then bt x (8 + i) else bt x 31 := b_sshr 8 (by omega) x hi
end
