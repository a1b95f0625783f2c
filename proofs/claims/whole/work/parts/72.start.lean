/-! THE CLAIM OUT OF ONE WALK OF THE LAW'S BODY. Your part is whole_start (and what it stands on); all else here is the same for every law, but numbers. -/
def R_law : String := "CulpritFinderLaw"
def lw_P (b : Addr) (xs : List Int32) (args : Array Value) (s : State) : Prop := args = #[.ref b] ∧ s.IntsAt b xs ∧ xs.length ≤ 2048 ∧ (Jvm.Cond.and given_1 narrow_1).before args s = true
def lw_Q (_ : Array Value) (s : State) (o : Outcome) (t : State) : Prop := o = .returned (some (.int 1)) ∧ Framed s o t [] 26 2158
def lw_Z (below : List Frame) (a : Array Value) (s : State) : State → Prop := fun t => ∃ o, t.status = .running ∧ Ended t below o ∧ lw_Q a s o t
/-- the law's own end, with 1 on the stack, nothing written that was there before, its room as the claim has it -/
theorem lw_ret {p : Program} {l : Launch} {e : Env} {s : State} {m : MethodId} {below : List Frame} {meth : Method} {c : Code} {b : Nat} (hx : p.tables.exec = Jvm.exec) (hb : c.code = code) (hr : meth.sig.returnType = ret) (hlocks : meth.locks = false) {pc : Nat} {H : Heap} {ls : Array Slot} (hdg : decode code pc = .ok (.ireturn, 1)) : W p l e room_1 s m #[Value.ref b] below meth c H [] 26 2158 (lw_Z below #[Value.ref b] s) (F0 m pc ls [.int 1]) := by
  intro T hT X
  obtain ⟨fs, hret, hrun, hended, hW, hframe⟩ := X.leave (v := some (.int 1)) (hlocks := hlocks) (fun h => by rw [hr] at h; cases h)
  have hmeth' : T.vm.method? m = some meth := X.method'
  refine ⟨T.setFrames fs, ?_, .returned (some (.int 1)), hrun, hended, rfl, ⟨_, rfl⟩, hW, hframe⟩
  jvm_step X.here [X.here.top, hx, hb, hdg, hmeth', hr, ret, narrow_b1]
  (try refine ⟨rfl, ?_⟩); (try refine ⟨rfl, ?_⟩)
  first | (intro acts; rw [hret _ acts rfl rfl rfl]) | rw [hret _ _ rfl rfl rfl]
  exact Steps.refl _
/-- what holds at the law's entry: the machine, the code, the tables' words (any of lw_tbl by 'hts w (by decide +kernel)'), the script of L ints xs at the cell b, what the Statement gives of the start (any of its parts by flat_of_before) -/
def lw_At (p : Program) (s : State) (m : MethodId) (meth : Method) (c : Code) (b L : Nat) (xs : Nat → Int32) : Prop :=
  p.tables.exec = Jvm.exec ∧ c.code = code ∧ meth.sig.returnType = ret ∧ c.maxLocals = 4 ∧ s.vm.findClass R_law = some m.cls ∧ (∀ w ∈ lw_tbl, w.before #[Value.ref b] s = true) ∧ va_X b L xs s s.heap ∧ b < s.heap.size ∧ meth.locks = false ∧ (Jvm.Cond.and given_1 narrow_1).before #[Value.ref b] s = true
/-! the start: 26 cells -/
def cf_W00 : cf_Wd := fun k => match k with
  | 10 => (fun j => match j with
    | 7 => -1
    | 8 => -1
    | 10 => -1
    | 13 => -1
    | 14 => -1
    | _ => 0)
  | 11 => (fun j => match j with
    | 1 => -1
    | _ => 0)
  | _ => fun _ => 0
theorem cf_Inv0 : cf_Inv cf_W00 0 := by
  refine ⟨0, ⟨⟨by omega, nI_0.symm, nI_0.symm⟩, ⟨rfl, rfl, rfl⟩, fun c hc => absurd hc (Nat.not_lt_zero c), fun c hc => absurd hc (Nat.not_lt_zero c), fun c hc => ?_, ⟨fun i => ⟨0, by omega, nI_0.symm⟩, fun i _ => rfl⟩, fun j _ => rfl, fun j _ => rfl, fun j _ => ⟨0, by omega, nI_0.symm⟩⟩, rfl, Or.inl ⟨⟨rfl, rfl, rfl, rfl⟩, rfl⟩⟩
  constructor
  · intro h
    have h2 : bt 0 c = true := h
    rw [b_0] at h2
    cases h2
  · intro ⟨k, hk, _⟩
    exact absurd hk (Nat.not_lt_zero k)
theorem cf_D_of {A : Nat → Prop} {cA : ClassId} {ad : Nat → Nat} {w : cf_Wd} (h : va_D A (cf_ws cA ad w)) : cf_D A ad := by
  refine ⟨fun i j hi hj e => ?_, fun k hk => ?_⟩
  · exact h.1 i j (ad i, cf_cel cA ad w i) (ad j, cf_cel cA ad w j) (by rw [cf_ws_at, if_pos hi]) (by rw [cf_ws_at, if_pos hj]) e
  · exact h.2 k (ad k, cf_cel cA ad w k) (by rw [cf_ws_at, if_pos hk])
set_option maxHeartbeats 4000000 in
set_option maxRecDepth 100000 in
theorem whole_start {p : Program} {e : Env} {s : State} {m : MethodId} {below : List Frame} {meth : Method} {c : Code} (l : Launch) {b L : Nat} {xs : Nat → Int32} (hL : L ≤ 2048) (C0 : lw_At p s m meth c b L xs) : W p l e room_1 s m #[Value.ref b] below meth c s.heap [] 0 0 (lw_Z below #[Value.ref b] s) (entryFrame m ([Value.ref b] : List Value).toArray 4) := by
  obtain ⟨hx, hb, hr, hml, hown, hts, hX, hbl, hlk, hgv⟩ := C0
  have hown : s.vm.findClass "CulpritFinderLaw" = some m.cls := hown
  have hB : cf_B s := fun w hw hg => va_Nw.of (cf_g_on hg) (hts w hw)
  have hAc : cf_Ac s := by
    intro a
    have h1 := hts (Cond.arrayClass .int) (cf_mem 78 (by decide +kernel))
    unfold Cond.before Cond.holds Cond.value at h1 ⊢
    exact h1
  obtain ⟨c0, i0, k0⟩ := u_known (C := "CulpritFinder$History") (T := cf_T0) (N := 5) (n := 5) hts (fun w hw => (cf_la0 w hw).1) (hts (Cond.instantiable "CulpritFinder$History" 5) (cf_mem 55 (by decide +kernel)))
  obtain ⟨c1, i1, k1⟩ := u_known (C := "CulpritFinder$Machine") (T := cf_T1) (N := 4) (n := 4) hts (fun w hw => (cf_la1 w hw).1) (hts (Cond.instantiable "CulpritFinder$Machine" 4) (cf_mem 80 (by decide +kernel)))
  obtain ⟨c2, i2, k2⟩ := u_known (C := "CulpritFinder$Reduction") (T := cf_T2) (N := 3) (n := 3) hts (fun w hw => (cf_la2 w hw).1) (hts (Cond.instantiable "CulpritFinder$Reduction" 3) (cf_mem 105 (by decide +kernel)))
  obtain ⟨c3, i3, k3⟩ := u_known (C := "CulpritFinder$Search") (T := cf_T3) (N := 17) (n := 17) hts (fun w hw => (cf_la3 w hw).1) (hts (Cond.instantiable "CulpritFinder$Search" 17) (cf_mem 99 (by decide +kernel)))
  obtain ⟨c4, i4, k4⟩ := u_known (C := "CulpritFinder") (T := cf_T4) (N := 3) (n := 3) hts (fun w hw => (cf_la4 w hw).1) (hts (Cond.instantiable "CulpritFinder" 3) (cf_mem 47 (by decide +kernel)))
  obtain ⟨c5, i5, k5⟩ := u_known (C := "CulpritFinderModel") (T := cf_T5) (N := 24) (n := 24) hts (fun w hw => (cf_la5 w hw).1) (hts (Cond.instantiable "CulpritFinderModel" 24) (cf_mem 457 (by decide +kernel)))
  obtain ⟨D, hK⟩ : ∃ D : va_G, va_K D cf_cls [] s := by
    refine ⟨(fun k => match k with | 0 => c0 | 1 => c1 | 2 => c2 | 3 => c3 | 4 => c4 | _ => c5, fun k => match k with | 0 => i0 | 1 => i1 | 2 => i2 | 3 => i3 | 4 => i4 | _ => i5), fun k q hq => ?_, fun k q hk => by simp at hk⟩
    match k, hq with
    | 0, hq => rw [← Option.some.inj hq]; exact k0
    | 1, hq => rw [← Option.some.inj hq]; exact k1
    | 2, hq => rw [← Option.some.inj hq]; exact k2
    | 3, hq => rw [← Option.some.inj hq]; exact k3
    | 4, hq => rw [← Option.some.inj hq]; exact k4
    | 5, hq => rw [← Option.some.inj hq]; exact k5
    | n + 6, hq => simp [cf_cls] at hq
  obtain ⟨A, hAe⟩ : ∃ A : Nat → Prop, A = fun q => s.heap.size ≤ q := ⟨_, rfl⟩
  have hA : ∀ q : Nat, s.heap.size ≤ q → A q := fun q h => by rw [hAe]; exact h
  have hA2 : ∀ q : Nat, A q → s.heap.size ≤ q := fun q h => by rw [hAe] at h; exact h
  have hS : va_S A s.heap s.heap [] := va_S.rf
  have hP : va_P D cf_cls [] s.heap := fun k q h => by simp at h
  have hD : va_D A [] := ⟨fun i j p q h => by simp at h, fun k q h => by simp at h⟩
  have hl := lv_entry ([Value.ref b]) (n := 4) (Nat.le_of_ble_eq_true rfl)
  rw [lg_entry_eq]
  generalize (lg_sl ([Value.ref b]) ++ List.replicate (4 - (lg_sl ([Value.ref b])).length) Slot.unset).toArray = ls at hl ⊢
  have hl : lv_has ls 4 [(0, .ref b)] := hl
  refine va_new (ci := 4) (fs := [.null, .null, .null]) (C := "CulpritFinder") (T := cf_T4) (N := 3) hx hb (fun w hw => hB.use (cf_la4 w hw).1 (cf_la4 w hw).2 (#[Value.ref b])) (fun _ z => z) cf_y4 cf_ty4 hown (hB.use (cf_mem 46 (by decide +kernel)) rfl (#[Value.ref b])) (hB.use (cf_mem 47 (by decide +kernel)) rfl (#[Value.ref b])) (hB.use (cf_mem 36 (by decide +kernel)) rfl (#[Value.ref b])) hK hP hD hS hA rfl (fun j hj => by rcases (show j = 0 ∨ j = 1 ∨ j = 2 by omega) with rfl | rfl | rfl <;> rfl) (show (1 : Nat) ≤ 26 by decide) (show (3 : Nat) ≤ 2158 by decide) (show decode code 0 = .ok (.new 7, 3) by decide +kernel) (fun q1 H hP hD hS => ?_)
  refine W.widen (k := 1) (n := 3) (show (1 : Nat) ≤ 1 by decide) (show (3 : Nat) ≤ 3 by decide) ?_
  have hP : va_P D cf_cls [(q1, .inr (4, [.null, .null, .null]))] H := hP
  have hD : va_D A [(q1, .inr (4, [.null, .null, .null]))] := hD
  refine lv_dup hx hb (show decode code 3 = .ok (.dup, 1) by decide +kernel) rfl ?_
  have hPc := hP.sub (ws' := [(q1, .inr (4, [.null, .null, .null]))]) [0] rfl
  have hDc := hD.sub (ws' := [(q1, .inr (4, [.null, .null, .null]))]) [0] (by decide) rfl
  have hKc := hK.sub (tys' := []) [] rfl
  have hFc := va_free (wc := [(q1, .inr (4, [.null, .null, .null]))]) hD hS hA [0] rfl
  have hm1 : Cond.code (⟨"CulpritFinder", "<init>", "()V"⟩ : MethodName) prog_1_method_1_code 1 none ∈ lw_tbl := (cf_mem 50 (by decide +kernel))
  have hm2 : Cond.initialized "CulpritFinder" ∈ lw_tbl := (cf_mem 36 (by decide +kernel))
  have hm3 : Cond.instanceMethod (⟨"CulpritFinder", "<init>", "()V"⟩ : MethodName) ∈ lw_tbl := (cf_mem 49 (by decide +kernel))
  have hm4 : Cond.methodLink "CulpritFinderLaw" 9 (⟨"CulpritFinder", "<init>", "()V"⟩ : MethodName) ∈ lw_tbl := (cf_mem 48 (by decide +kernel))
  refine va_callv (va_runI (Ts := []) (As := []) (rest := [.ref q1]) ⟨hx, hb, hml, hown, fun _ h9 => by cases h9⟩ (k_C l D q1 H.size) ⟨⟨rfl, rfl, (show (4 : Nat) ≤ 9 by decide), (show (110 : Nat) ≤ 326 by decide), fun w9 hw9 a' U hW => by rw [List.mem_singleton.mp hw9]; exact word_at hW (Or.inl rfl) (hB.use hm1 rfl (#[Value.ref b])), List.mem_cons_self, (hB.use hm1 rfl (#[Value.ref b])), (hB.use hm2 rfl (#[Value.ref b])), ⟨by decide +kernel, by decide +kernel⟩, fun sig h9 => by
    have h8 : (parseMethodDescriptor "()V").map (fun d => d.parameters.length) = some 0 := by decide +kernel
    rw [h9] at h8
    exact (Option.some.inj h8).symm, (hB.use hm4 rfl (#[Value.ref b]))⟩, rfl, (hB.use hm3 rfl (#[Value.ref b]))⟩ ⟨fun a U g mk q => by obtain ⟨q0, q1, qP, qK, qD, qB, qC⟩ := q; exact ⟨q0, q1, qP, va_K.moved (u := U) (U := U.calling g mk a) (Vm.Alike.refl U.vm) qK, qD, cf_B.same (u := U) (U := U.calling g mk a) rfl qB, cf_Ac.same (u := U) (U := U.calling g mk a) rfl qC⟩, fun U hU hW => ⟨rfl, by rw [hU], by rw [hU]; exact hPc, va_K.moved hW.alike hKc, hDc.weaken (fun _ _ _ _ => trivial), hB.warm hW, hAc.warm hW⟩⟩ rfl rfl hl.1 rfl (lv_room (Nat.le_of_ble_eq_true rfl)) (show decode code 4 = .ok (.invokespecial 9, 3) by decide +kernel) ⟨(show (15 : Nat) ≤ 26 by decide), (show (746 : Nat) ≤ 2158 by decide)⟩) hS (fun q _ h => hFc q h) hFc (fun u t H1 locs ht hvm hw hB1 hz1 hk1 hS => ?_)
  obtain ⟨q2_0, q2_1, q2_2, q2_3, q2_4, q2_5, q2_6, q2_7, q2_8, q2_9, q2_10, q2_11, q2_12, q2_13, qA2, hP1, hK1, hD1⟩ := hB1
  rw [ht] at hP1
  have hK1 := va_K.moved hvm.symm hK1
  obtain ⟨hP, hD⟩ := va_join (wr := []) (w1 := [(q1, .inr (4, [.ref q2_0, .ref q2_4, .ref q2_9])), (q2_0, .inr (0, [.ref q2_1, .ref q2_2, .ref q2_3, .int 0, .int 0])), (q2_1, .inl (qA2, 14, .inl (fun _ => 0))), (q2_2, .inl (qA2, 14, .inl (fun _ => 0))), (q2_3, .inl (qA2, 112, .inl (fun _ => 0))), (q2_4, .inr (1, [.ref q2_5, .ref q2_6, .ref q2_7, .ref q2_8])), (q2_5, .inl (qA2, 8, .inl (fun _ => 0))), (q2_6, .inl (qA2, 8, .inl (fun _ => 0))), (q2_7, .inl (qA2, 8, .inl (fun _ => 0))), (q2_8, .inl (qA2, 10, .inl (fun _ => 0))), (q2_9, .inr (3, [.ref q2_0, .ref q2_4, .ref q2_10, .ref q2_12, .ref q2_13, .int 0, .int 0, .int (-1), .int (-1), .int 0, .int (-1), .int 0, .int 0, .int (-1), .int (-1), .int 0, .int 0])), (q2_10, .inr (2, [.ref q2_11, .int (-1), .int 0])), (q2_11, .inl (qA2, 256, .inl (fun _ => 0))), (q2_12, .inl (qA2, 270, .inl (fun _ => 0))), (q2_13, .inl (qA2, 14, .inl (fun _ => 0)))]) hP hD [0] [] rfl rfl (by decide) (by decide) hk1 hFc hP1 hD1
  generalize H1 = H at hP hS ⊢
  have hK := hK1
  have hK : va_K D cf_cls [(qA2, .int)] s := hK
  refine W.widen (k := 15) (n := 746) (show (15 : Nat) ≤ 15 by decide) (show (746 : Nat) ≤ 746 by decide) ?_
  have hP : va_P D cf_cls [(q1, .inr (4, [.ref q2_0, .ref q2_4, .ref q2_9])), (q2_0, .inr (0, [.ref q2_1, .ref q2_2, .ref q2_3, .int 0, .int 0])), (q2_1, .inl (qA2, 14, .inl (fun _ => 0))), (q2_2, .inl (qA2, 14, .inl (fun _ => 0))), (q2_3, .inl (qA2, 112, .inl (fun _ => 0))), (q2_4, .inr (1, [.ref q2_5, .ref q2_6, .ref q2_7, .ref q2_8])), (q2_5, .inl (qA2, 8, .inl (fun _ => 0))), (q2_6, .inl (qA2, 8, .inl (fun _ => 0))), (q2_7, .inl (qA2, 8, .inl (fun _ => 0))), (q2_8, .inl (qA2, 10, .inl (fun _ => 0))), (q2_9, .inr (3, [.ref q2_0, .ref q2_4, .ref q2_10, .ref q2_12, .ref q2_13, .int 0, .int 0, .int (-1), .int (-1), .int 0, .int (-1), .int 0, .int 0, .int (-1), .int (-1), .int 0, .int 0])), (q2_10, .inr (2, [.ref q2_11, .int (-1), .int 0])), (q2_11, .inl (qA2, 256, .inl (fun _ => 0))), (q2_12, .inl (qA2, 270, .inl (fun _ => 0))), (q2_13, .inl (qA2, 14, .inl (fun _ => 0)))] H := hP
  have hD : va_D A [(q1, .inr (4, [.ref q2_0, .ref q2_4, .ref q2_9])), (q2_0, .inr (0, [.ref q2_1, .ref q2_2, .ref q2_3, .int 0, .int 0])), (q2_1, .inl (qA2, 14, .inl (fun _ => 0))), (q2_2, .inl (qA2, 14, .inl (fun _ => 0))), (q2_3, .inl (qA2, 112, .inl (fun _ => 0))), (q2_4, .inr (1, [.ref q2_5, .ref q2_6, .ref q2_7, .ref q2_8])), (q2_5, .inl (qA2, 8, .inl (fun _ => 0))), (q2_6, .inl (qA2, 8, .inl (fun _ => 0))), (q2_7, .inl (qA2, 8, .inl (fun _ => 0))), (q2_8, .inl (qA2, 10, .inl (fun _ => 0))), (q2_9, .inr (3, [.ref q2_0, .ref q2_4, .ref q2_10, .ref q2_12, .ref q2_13, .int 0, .int 0, .int (-1), .int (-1), .int 0, .int (-1), .int 0, .int 0, .int (-1), .int (-1), .int 0, .int 0])), (q2_10, .inr (2, [.ref q2_11, .int (-1), .int 0])), (q2_11, .inl (qA2, 256, .inl (fun _ => 0))), (q2_12, .inl (qA2, 270, .inl (fun _ => 0))), (q2_13, .inl (qA2, 14, .inl (fun _ => 0)))] := hD
  refine lv_astore_n hx hb (show decode code 7 = .ok (.astore_n 1, 1) by decide +kernel) rfl hl (by decide) rfl (fun ls hl => ?_)
  have hl : lv_has ls 4 [(1, .ref q1), (0, .ref b)] := hl
  refine va_new (ci := 5) (fs := [.int 0, .null, .null, .null, .null, .int 0, .int 0, .int 0, .int 0, .int 0, .int 0, .int 0, .null, .null, .null, .null, .null, .null, .int 0, .int 0, .int 0, .int 0, .int 0, .int 0]) (C := "CulpritFinderModel") (T := cf_T5) (N := 24) hx hb (fun w hw => hB.use (cf_la5 w hw).1 (cf_la5 w hw).2 (#[Value.ref b])) (fun _ z => z) cf_y5 cf_ty5 hown (hB.use (cf_mem 456 (by decide +kernel)) rfl (#[Value.ref b])) (hB.use (cf_mem 457 (by decide +kernel)) rfl (#[Value.ref b])) (hB.use (cf_mem 41 (by decide +kernel)) rfl (#[Value.ref b])) hK hP hD hS hA rfl (fun j hj => by rcases (show j = 0 ∨ j = 1 ∨ j = 2 ∨ j = 3 ∨ j = 4 ∨ j = 5 ∨ j = 6 ∨ j = 7 ∨ j = 8 ∨ j = 9 ∨ j = 10 ∨ j = 11 ∨ j = 12 ∨ j = 13 ∨ j = 14 ∨ j = 15 ∨ j = 16 ∨ j = 17 ∨ j = 18 ∨ j = 19 ∨ j = 20 ∨ j = 21 ∨ j = 22 ∨ j = 23 by omega) with rfl | rfl | rfl | rfl | rfl | rfl | rfl | rfl | rfl | rfl | rfl | rfl | rfl | rfl | rfl | rfl | rfl | rfl | rfl | rfl | rfl | rfl | rfl | rfl <;> rfl) (show (16 : Nat) ≤ 26 by decide) (show (770 : Nat) ≤ 2158 by decide) (show decode code 8 = .ok (.new 10, 3) by decide +kernel) (fun u1 H hP hD hS => ?_)
  refine W.widen (k := 16) (n := 770) (show (16 : Nat) ≤ 16 by decide) (show (770 : Nat) ≤ 770 by decide) ?_
  have hP : va_P D cf_cls [(q1, .inr (4, [.ref q2_0, .ref q2_4, .ref q2_9])), (q2_0, .inr (0, [.ref q2_1, .ref q2_2, .ref q2_3, .int 0, .int 0])), (q2_1, .inl (qA2, 14, .inl (fun _ => 0))), (q2_2, .inl (qA2, 14, .inl (fun _ => 0))), (q2_3, .inl (qA2, 112, .inl (fun _ => 0))), (q2_4, .inr (1, [.ref q2_5, .ref q2_6, .ref q2_7, .ref q2_8])), (q2_5, .inl (qA2, 8, .inl (fun _ => 0))), (q2_6, .inl (qA2, 8, .inl (fun _ => 0))), (q2_7, .inl (qA2, 8, .inl (fun _ => 0))), (q2_8, .inl (qA2, 10, .inl (fun _ => 0))), (q2_9, .inr (3, [.ref q2_0, .ref q2_4, .ref q2_10, .ref q2_12, .ref q2_13, .int 0, .int 0, .int (-1), .int (-1), .int 0, .int (-1), .int 0, .int 0, .int (-1), .int (-1), .int 0, .int 0])), (q2_10, .inr (2, [.ref q2_11, .int (-1), .int 0])), (q2_11, .inl (qA2, 256, .inl (fun _ => 0))), (q2_12, .inl (qA2, 270, .inl (fun _ => 0))), (q2_13, .inl (qA2, 14, .inl (fun _ => 0))), (u1, .inr (5, [.int 0, .null, .null, .null, .null, .int 0, .int 0, .int 0, .int 0, .int 0, .int 0, .int 0, .null, .null, .null, .null, .null, .null, .int 0, .int 0, .int 0, .int 0, .int 0, .int 0]))] H := hP
  have hD : va_D A [(q1, .inr (4, [.ref q2_0, .ref q2_4, .ref q2_9])), (q2_0, .inr (0, [.ref q2_1, .ref q2_2, .ref q2_3, .int 0, .int 0])), (q2_1, .inl (qA2, 14, .inl (fun _ => 0))), (q2_2, .inl (qA2, 14, .inl (fun _ => 0))), (q2_3, .inl (qA2, 112, .inl (fun _ => 0))), (q2_4, .inr (1, [.ref q2_5, .ref q2_6, .ref q2_7, .ref q2_8])), (q2_5, .inl (qA2, 8, .inl (fun _ => 0))), (q2_6, .inl (qA2, 8, .inl (fun _ => 0))), (q2_7, .inl (qA2, 8, .inl (fun _ => 0))), (q2_8, .inl (qA2, 10, .inl (fun _ => 0))), (q2_9, .inr (3, [.ref q2_0, .ref q2_4, .ref q2_10, .ref q2_12, .ref q2_13, .int 0, .int 0, .int (-1), .int (-1), .int 0, .int (-1), .int 0, .int 0, .int (-1), .int (-1), .int 0, .int 0])), (q2_10, .inr (2, [.ref q2_11, .int (-1), .int 0])), (q2_11, .inl (qA2, 256, .inl (fun _ => 0))), (q2_12, .inl (qA2, 270, .inl (fun _ => 0))), (q2_13, .inl (qA2, 14, .inl (fun _ => 0))), (u1, .inr (5, [.int 0, .null, .null, .null, .null, .int 0, .int 0, .int 0, .int 0, .int 0, .int 0, .int 0, .null, .null, .null, .null, .null, .null, .int 0, .int 0, .int 0, .int 0, .int 0, .int 0]))] := hD
  refine lv_dup hx hb (show decode code 11 = .ok (.dup, 1) by decide +kernel) rfl ?_
  have hPc := hP.sub (ws' := [(u1, .inr (5, [.int 0, .null, .null, .null, .null, .int 0, .int 0, .int 0, .int 0, .int 0, .int 0, .int 0, .null, .null, .null, .null, .null, .null, .int 0, .int 0, .int 0, .int 0, .int 0, .int 0]))]) [15] rfl
  have hDc := hD.sub (ws' := [(u1, .inr (5, [.int 0, .null, .null, .null, .null, .int 0, .int 0, .int 0, .int 0, .int 0, .int 0, .int 0, .null, .null, .null, .null, .null, .null, .int 0, .int 0, .int 0, .int 0, .int 0, .int 0]))]) [15] (by decide) rfl
  have hKc := hK.sub (tys' := []) [] rfl
  have hFc := va_free (wc := [(u1, .inr (5, [.int 0, .null, .null, .null, .null, .int 0, .int 0, .int 0, .int 0, .int 0, .int 0, .int 0, .null, .null, .null, .null, .null, .null, .int 0, .int 0, .int 0, .int 0, .int 0, .int 0]))]) hD hS hA [15] rfl
  have hm1 : Cond.code (⟨"CulpritFinderModel", "<init>", "()V"⟩ : MethodName) prog_7_method_1_code 1 none ∈ lw_tbl := (cf_mem 460 (by decide +kernel))
  have hm2 : Cond.initialized "CulpritFinderModel" ∈ lw_tbl := (cf_mem 41 (by decide +kernel))
  have hm3 : Cond.instanceMethod (⟨"CulpritFinderModel", "<init>", "()V"⟩ : MethodName) ∈ lw_tbl := (cf_mem 459 (by decide +kernel))
  have hm4 : Cond.methodLink "CulpritFinderLaw" 12 (⟨"CulpritFinderModel", "<init>", "()V"⟩ : MethodName) ∈ lw_tbl := (cf_mem 458 (by decide +kernel))
  refine va_callv (va_runI (Ts := []) (As := []) (rest := [.ref u1]) ⟨hx, hb, hml, hown, fun _ h9 => by cases h9⟩ (k_P l D u1 H.size) ⟨⟨rfl, rfl, (show (2 : Nat) ≤ 9 by decide), (show (32 : Nat) ≤ 326 by decide), fun w9 hw9 a' U hW => by rw [List.mem_singleton.mp hw9]; exact word_at hW (Or.inl rfl) (hB.use hm1 rfl (#[Value.ref b])), List.mem_cons_self, (hB.use hm1 rfl (#[Value.ref b])), (hB.use hm2 rfl (#[Value.ref b])), ⟨by decide +kernel, by decide +kernel⟩, fun sig h9 => by
    have h8 : (parseMethodDescriptor "()V").map (fun d => d.parameters.length) = some 0 := by decide +kernel
    rw [h9] at h8
    exact (Option.some.inj h8).symm, (hB.use hm4 rfl (#[Value.ref b]))⟩, rfl, (hB.use hm3 rfl (#[Value.ref b]))⟩ ⟨fun a U g mk q => by obtain ⟨q0, q1, qP, qK, qD, qB, qC⟩ := q; exact ⟨q0, q1, qP, va_K.moved (u := U) (U := U.calling g mk a) (Vm.Alike.refl U.vm) qK, qD, cf_B.same (u := U) (U := U.calling g mk a) rfl qB, cf_Ac.same (u := U) (U := U.calling g mk a) rfl qC⟩, fun U hU hW => ⟨rfl, by rw [hU], by rw [hU]; exact hPc, va_K.moved hW.alike hKc, hDc.weaken (fun _ _ _ _ => trivial), hB.warm hW, hAc.warm hW⟩⟩ rfl rfl hl.1 rfl (lv_room (Nat.le_of_ble_eq_true rfl)) (show decode code 12 = .ok (.invokespecial 12, 3) by decide +kernel) ⟨(show (26 : Nat) ≤ 26 by decide), (show (2158 : Nat) ≤ 2158 by decide)⟩) hS (fun q _ h => hFc q h) hFc (fun u t H1 locs ht hvm hw hB1 hz1 hk1 hS => ?_)
  obtain ⟨u2_0, u2_1, u2_2, u2_3, u2_4, u2_5, u2_6, u2_7, u2_8, u2_9, uA2, hP1, hK1, hD1⟩ := hB1
  rw [ht] at hP1
  have hK1 := va_K.moved hvm.symm hK1
  obtain ⟨hP, hD⟩ := va_join (wr := [(q1, .inr (4, [.ref q2_0, .ref q2_4, .ref q2_9])), (q2_0, .inr (0, [.ref q2_1, .ref q2_2, .ref q2_3, .int 0, .int 0])), (q2_1, .inl (qA2, 14, .inl (fun _ => 0))), (q2_2, .inl (qA2, 14, .inl (fun _ => 0))), (q2_3, .inl (qA2, 112, .inl (fun _ => 0))), (q2_4, .inr (1, [.ref q2_5, .ref q2_6, .ref q2_7, .ref q2_8])), (q2_5, .inl (qA2, 8, .inl (fun _ => 0))), (q2_6, .inl (qA2, 8, .inl (fun _ => 0))), (q2_7, .inl (qA2, 8, .inl (fun _ => 0))), (q2_8, .inl (qA2, 10, .inl (fun _ => 0))), (q2_9, .inr (3, [.ref q2_0, .ref q2_4, .ref q2_10, .ref q2_12, .ref q2_13, .int 0, .int 0, .int (-1), .int (-1), .int 0, .int (-1), .int 0, .int 0, .int (-1), .int (-1), .int 0, .int 0])), (q2_10, .inr (2, [.ref q2_11, .int (-1), .int 0])), (q2_11, .inl (qA2, 256, .inl (fun _ => 0))), (q2_12, .inl (qA2, 270, .inl (fun _ => 0))), (q2_13, .inl (qA2, 14, .inl (fun _ => 0)))]) (w1 := [(u1, .inr (5, [.int 0, .ref u2_0, .ref u2_1, .ref u2_2, .ref u2_3, .int 0, .int 0, .int 0, .int 0, .int 0, .int 0, .int 0, .ref u2_4, .ref u2_5, .ref u2_6, .ref u2_7, .ref u2_8, .ref u2_9, .int 0, .int 0, .int 0, .int 0, .int 0, .int 0])), (u2_0, .inl (uA2, 14, .inl (fun _ => 0))), (u2_1, .inl (uA2, 14, .inl (fun _ => 0))), (u2_2, .inl (uA2, 112, .inl (fun _ => 0))), (u2_3, .inl (uA2, 14, .inl (fun _ => 0))), (u2_4, .inl (uA2, 600, .inl (fun _ => 0))), (u2_5, .inl (uA2, 600, .inl (fun _ => 0))), (u2_6, .inl (uA2, 8, .inl (fun _ => 0))), (u2_7, .inl (uA2, 8, .inl (fun _ => 0))), (u2_8, .inl (uA2, 8, .inl (fun _ => 0))), (u2_9, .inl (uA2, 10, .inl (fun _ => 0)))]) hP hD [15] [0, 1, 2, 3, 4, 5, 6, 7, 8, 9, 10, 11, 12, 13, 14] rfl rfl (by decide) (by decide) hk1 hFc hP1 hD1
  generalize H1 = H at hP hS ⊢
  have hK := hK.app hK1
  have ec : qA2 = uA2 := cf_cA hK 0 1 rfl rfl
  subst ec
  have hK := hK.sub (tys' := [(qA2, .int)]) [0] rfl
  have hK : va_K D cf_cls [(qA2, .int)] s := hK
  refine W.widen (k := 26) (n := 2158) (show (26 : Nat) ≤ 26 by decide) (show (2158 : Nat) ≤ 2158 by decide) ?_
  have hP : va_P D cf_cls [(q1, .inr (4, [.ref q2_0, .ref q2_4, .ref q2_9])), (q2_0, .inr (0, [.ref q2_1, .ref q2_2, .ref q2_3, .int 0, .int 0])), (q2_1, .inl (qA2, 14, .inl (fun _ => 0))), (q2_2, .inl (qA2, 14, .inl (fun _ => 0))), (q2_3, .inl (qA2, 112, .inl (fun _ => 0))), (q2_4, .inr (1, [.ref q2_5, .ref q2_6, .ref q2_7, .ref q2_8])), (q2_5, .inl (qA2, 8, .inl (fun _ => 0))), (q2_6, .inl (qA2, 8, .inl (fun _ => 0))), (q2_7, .inl (qA2, 8, .inl (fun _ => 0))), (q2_8, .inl (qA2, 10, .inl (fun _ => 0))), (q2_9, .inr (3, [.ref q2_0, .ref q2_4, .ref q2_10, .ref q2_12, .ref q2_13, .int 0, .int 0, .int (-1), .int (-1), .int 0, .int (-1), .int 0, .int 0, .int (-1), .int (-1), .int 0, .int 0])), (q2_10, .inr (2, [.ref q2_11, .int (-1), .int 0])), (q2_11, .inl (qA2, 256, .inl (fun _ => 0))), (q2_12, .inl (qA2, 270, .inl (fun _ => 0))), (q2_13, .inl (qA2, 14, .inl (fun _ => 0))), (u1, .inr (5, [.int 0, .ref u2_0, .ref u2_1, .ref u2_2, .ref u2_3, .int 0, .int 0, .int 0, .int 0, .int 0, .int 0, .int 0, .ref u2_4, .ref u2_5, .ref u2_6, .ref u2_7, .ref u2_8, .ref u2_9, .int 0, .int 0, .int 0, .int 0, .int 0, .int 0])), (u2_0, .inl (qA2, 14, .inl (fun _ => 0))), (u2_1, .inl (qA2, 14, .inl (fun _ => 0))), (u2_2, .inl (qA2, 112, .inl (fun _ => 0))), (u2_3, .inl (qA2, 14, .inl (fun _ => 0))), (u2_4, .inl (qA2, 600, .inl (fun _ => 0))), (u2_5, .inl (qA2, 600, .inl (fun _ => 0))), (u2_6, .inl (qA2, 8, .inl (fun _ => 0))), (u2_7, .inl (qA2, 8, .inl (fun _ => 0))), (u2_8, .inl (qA2, 8, .inl (fun _ => 0))), (u2_9, .inl (qA2, 10, .inl (fun _ => 0)))] H := hP
  have hD : va_D A [(q1, .inr (4, [.ref q2_0, .ref q2_4, .ref q2_9])), (q2_0, .inr (0, [.ref q2_1, .ref q2_2, .ref q2_3, .int 0, .int 0])), (q2_1, .inl (qA2, 14, .inl (fun _ => 0))), (q2_2, .inl (qA2, 14, .inl (fun _ => 0))), (q2_3, .inl (qA2, 112, .inl (fun _ => 0))), (q2_4, .inr (1, [.ref q2_5, .ref q2_6, .ref q2_7, .ref q2_8])), (q2_5, .inl (qA2, 8, .inl (fun _ => 0))), (q2_6, .inl (qA2, 8, .inl (fun _ => 0))), (q2_7, .inl (qA2, 8, .inl (fun _ => 0))), (q2_8, .inl (qA2, 10, .inl (fun _ => 0))), (q2_9, .inr (3, [.ref q2_0, .ref q2_4, .ref q2_10, .ref q2_12, .ref q2_13, .int 0, .int 0, .int (-1), .int (-1), .int 0, .int (-1), .int 0, .int 0, .int (-1), .int (-1), .int 0, .int 0])), (q2_10, .inr (2, [.ref q2_11, .int (-1), .int 0])), (q2_11, .inl (qA2, 256, .inl (fun _ => 0))), (q2_12, .inl (qA2, 270, .inl (fun _ => 0))), (q2_13, .inl (qA2, 14, .inl (fun _ => 0))), (u1, .inr (5, [.int 0, .ref u2_0, .ref u2_1, .ref u2_2, .ref u2_3, .int 0, .int 0, .int 0, .int 0, .int 0, .int 0, .int 0, .ref u2_4, .ref u2_5, .ref u2_6, .ref u2_7, .ref u2_8, .ref u2_9, .int 0, .int 0, .int 0, .int 0, .int 0, .int 0])), (u2_0, .inl (qA2, 14, .inl (fun _ => 0))), (u2_1, .inl (qA2, 14, .inl (fun _ => 0))), (u2_2, .inl (qA2, 112, .inl (fun _ => 0))), (u2_3, .inl (qA2, 14, .inl (fun _ => 0))), (u2_4, .inl (qA2, 600, .inl (fun _ => 0))), (u2_5, .inl (qA2, 600, .inl (fun _ => 0))), (u2_6, .inl (qA2, 8, .inl (fun _ => 0))), (u2_7, .inl (qA2, 8, .inl (fun _ => 0))), (u2_8, .inl (qA2, 8, .inl (fun _ => 0))), (u2_9, .inl (qA2, 10, .inl (fun _ => 0)))] := hD
  refine lv_astore_n hx hb (show decode code 15 = .ok (.astore_n 2, 1) by decide +kernel) rfl hl (by decide) rfl (fun ls hl => ?_)
  have hl : lv_has ls 4 [(2, .ref u1), (1, .ref q1), (0, .ref b)] := hl
  obtain ⟨ad, hade⟩ : ∃ ad : Nat → Nat, ad = fun k => [q1, q2_0, q2_1, q2_2, q2_3, q2_4, q2_5, q2_6, q2_7, q2_8, q2_9, q2_10, q2_11, q2_12, q2_13, u1, u2_0, u2_1, u2_2, u2_3, u2_4, u2_5, u2_6, u2_7, u2_8, u2_9, b].getD k 0 := ⟨_, rfl⟩
  have hW0 : cf_ws qA2 ad cf_W00 = [(q1, .inr (4, [.ref q2_0, .ref q2_4, .ref q2_9])), (q2_0, .inr (0, [.ref q2_1, .ref q2_2, .ref q2_3, .int 0, .int 0])), (q2_1, .inl (qA2, 14, .inl (fun _ => 0))), (q2_2, .inl (qA2, 14, .inl (fun _ => 0))), (q2_3, .inl (qA2, 112, .inl (fun _ => 0))), (q2_4, .inr (1, [.ref q2_5, .ref q2_6, .ref q2_7, .ref q2_8])), (q2_5, .inl (qA2, 8, .inl (fun _ => 0))), (q2_6, .inl (qA2, 8, .inl (fun _ => 0))), (q2_7, .inl (qA2, 8, .inl (fun _ => 0))), (q2_8, .inl (qA2, 10, .inl (fun _ => 0))), (q2_9, .inr (3, [.ref q2_0, .ref q2_4, .ref q2_10, .ref q2_12, .ref q2_13, .int 0, .int 0, .int (-1), .int (-1), .int 0, .int (-1), .int 0, .int 0, .int (-1), .int (-1), .int 0, .int 0])), (q2_10, .inr (2, [.ref q2_11, .int (-1), .int 0])), (q2_11, .inl (qA2, 256, .inl (fun _ => 0))), (q2_12, .inl (qA2, 270, .inl (fun _ => 0))), (q2_13, .inl (qA2, 14, .inl (fun _ => 0))), (u1, .inr (5, [.int 0, .ref u2_0, .ref u2_1, .ref u2_2, .ref u2_3, .int 0, .int 0, .int 0, .int 0, .int 0, .int 0, .int 0, .ref u2_4, .ref u2_5, .ref u2_6, .ref u2_7, .ref u2_8, .ref u2_9, .int 0, .int 0, .int 0, .int 0, .int 0, .int 0])), (u2_0, .inl (qA2, 14, .inl (fun _ => 0))), (u2_1, .inl (qA2, 14, .inl (fun _ => 0))), (u2_2, .inl (qA2, 112, .inl (fun _ => 0))), (u2_3, .inl (qA2, 14, .inl (fun _ => 0))), (u2_4, .inl (qA2, 600, .inl (fun _ => 0))), (u2_5, .inl (qA2, 600, .inl (fun _ => 0))), (u2_6, .inl (qA2, 8, .inl (fun _ => 0))), (u2_7, .inl (qA2, 8, .inl (fun _ => 0))), (u2_8, .inl (qA2, 8, .inl (fun _ => 0))), (u2_9, .inl (qA2, 10, .inl (fun _ => 0)))] := by
    rw [hade]
    rfl
  rw [← hW0] at hP hD
  have h26 : ad 26 = b := by rw [hade]; rfl
  have hLL : cf_L ad ls 4 [some (.inr 26), some (.inr 0), some (.inr 15), none] := by
    refine ⟨hl.1, hl.2.1, fun q hq => hl.2.2 q ?_⟩
    have e1 : cf_lv ad 0 [some (.inr 26), some (.inr 0), some (.inr 15), none] = [(0, .ref b), (1, .ref q1), (2, .ref u1)] := by
      rw [hade]
      rfl
    rw [e1] at hq
    simp only [List.mem_cons, List.not_mem_nil, or_false] at hq ⊢
    rcases hq with h | h | h
    · exact Or.inr (Or.inr h)
    · exact Or.inr (Or.inl h)
    · exact Or.inl h
  have hrun : cf_wp (T_law xs L) (16, [some (.inr 26), some (.inr 0), some (.inr 15), none], [], cf_W00) (cf_qb (fun x _ => x = 1)) := by
    have h := law_run (xs := xs) hL 512 0 cf_W00 (by omega) cf_Inv0
    rw [Nat.mul_zero, nI_0] at h
    simp only [r_law_16, r_law_17]
    exact h
  obtain ⟨qr, hr1, hr2⟩ := hrun
  have key := cf_run_law (l := l) (R := room_1) (cc := code) (nL := 4) (own := "CulpritFinderLaw") (Z := (p, e, s, m, #[Value.ref b], below, meth, c, 26, 2158, lw_Z below #[Value.ref b] s, D, qA2, ad, A)) ⟨hx, hb, hml, hown, hB, hK, cf_D_of hD, (show (26 : Nat) ≤ 26 by decide), (show (2158 : Nat) ≤ 2158 by decide)⟩ (by
    show va_X (ad 26) L xs s s.heap ∧ ad 26 < s.heap.size ∧ ¬ A (ad 26)
    rw [h26]
    exact ⟨hX, hbl, fun h => Nat.lt_irrefl _ (Nat.lt_of_lt_of_le hbl (hA2 _ h))⟩) (sd_law xs L l) hr1 (by
    obtain ⟨v, w2⟩ := qr
    cases v with
    | none => exact hr2.elim
    | some v => cases v with
      | inr z => exact hr2.elim
      | inl x =>
        have ex : x = 1 := hr2.2
        subst ex
        intro H locs ls pc hd hP hS
        exact va_forget (fun q9 hq9 => hA2 _ (hS.2.2 q9 hq9)) (lw_ret hx hb hr hlk hd))
  exact key H _ ls hLL hP hS
