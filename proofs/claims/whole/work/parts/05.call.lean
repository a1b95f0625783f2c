/-! contracts over the one world, and calls -/
def cf_Q (D : va_G) (cA : ClassId) (ad : Nat → Nat) (q : cf_Rs) : Array Value → State → Outcome → State → Prop := match q.1 with
  | some (.inl x) => va_Qi (fun (r : Int32) (_ : Unit) => r = x) (fun _ t => va_P D cf_cls (cf_ws cA ad q.2) t.heap) (cf_A ad)
  | some (.inr _) => fun _ _ _ _ => False
  | none => va_Qv (fun (_ : Unit) => True) (fun _ t => va_P D cf_cls (cf_ws cA ad q.2) t.heap) (cf_A ad)
def cf_U (D : va_G) (cA : ClassId) (ad : Nat → Nat) (w : cf_Wd) (U : State) : Prop := va_P D cf_cls (cf_ws cA ad w) U.heap ∧ va_K D cf_cls [(cA, .int)] U ∧ cf_B U
def cf_rm (d : Nat) : Room := { frames := d, cells := 0, slots := 0, locals := 36 * d }
def cf_Ct (l : Launch) (y : MethodName) (cc : ByteArray) (nL : Nat) (ret : Option FieldType) (d : Nat) (as : List cf_AV) (w : cf_Wd) (q : cf_Rs) : Prop :=
  ∀ (D : va_G) (cA : ClassId) (ad : Nat → Nat), (∀ i j, i < 26 → j < 26 → ad i = ad j → i = j) → Met l y [.code y cc nL ret] (cf_rm d) (va_Pc (as.map (cf_v ad)) (cf_U D cA ad w)) (cf_Q D cA ad q) 0 0 (cf_A ad)
theorem cf_blind {av : List Value} {D : va_G} {cA : ClassId} {ad : Nat → Nat} {w : cf_Wd} : FrameBlind (va_Pc av (cf_U D cA ad w)) := fun a U g mk q =>
  ⟨q.1, q.2.1, va_K.moved (u := U) (U := U.calling g mk a) (Vm.Alike.refl U.vm) q.2.2.1, cf_B.same (u := U) (U := U.calling g mk a) rfl q.2.2.2⟩
theorem cf_sum (ad : Nat → Nat) : ∀ r : List cf_AV, ((r.map (cf_v ad)).map fun v => v.category).sum = r.length := by
  intro r
  induction r with
  | nil => rfl
  | cons a r ih =>
    simp only [List.map_cons, List.sum_cons, List.length_cons]
    rw [ih, cf_v_cat]
    omega
section Calls
variable {l : Launch} {R : Room} {cc : ByteArray} {nL : Nat} {own : String} {pc : Nat} {idx n d nC ci N : Nat} {y : MethodName} {bytes : ByteArray} {ret : Option FieldType} {C : String} {T : u_T} {F : List cf_AV → cf_Wd → Option cf_Rs}
/-- behind a call that ran -/
theorem cf_after {p : Program} {e : Env} {s : State} {m : MethodId} {args : Array Value} {below : List Frame} {meth : Method} {c : Code} {cells slots : Nat} {Q : State → Prop} {D : va_G} {cA : ClassId} {ad : Nat → Nat} {A : Nat → Prop} {H : Heap} {locs : List Loc} {ls : Array Slot} {L : List (Option cf_AV)} {st0 : List Value} {rest : List cf_AV} {q : cf_Rs} {a : Array Value}
    (hD : cf_D A ad) (hL : cf_L ad ls nL L) (hS : va_S A s.heap H locs)
    (hr : va_Run p l e R s m args below meth c H locs cells slots 0 0 (F0 m pc ls st0) (rest.map (cf_v ad)) (cf_Q D cA ad q a) (cf_A ad))
    (k : cf_R l R nL (p, e, s, m, args, below, meth, c, cells, slots, Q, D, cA, ad, A) (pc + 3, L, q.1.toList ++ rest, q.2)) : W p l e R s m args below meth c H locs cells slots Q (F0 m pc ls st0) := by
  have hA : ∀ x, cf_A ad x → A x := fun x ⟨j, hj, ex⟩ => ex ▸ hD.2 j hj
  obtain ⟨v, w⟩ := q
  cases v with
  | none =>
    have hr' : va_Run p l e R s m args below meth c H locs cells slots 0 0 (F0 m pc ls st0) (rest.map (cf_v ad)) (va_Qv (fun (_ : Unit) => True) (fun _ t => va_P D cf_cls (cf_ws cA ad w) t.heap) (cf_A ad) a) (cf_A ad) := hr
    exact va_callv hr' hS (fun x _ hx => hA x hx) hA (fun u t H1 locs1 ht hvm hp hB1 hz hk hS1 => k H1 locs1 ls hL (by rw [← ht]; exact hB1) hS1)
  | some v =>
    cases v with
    | inl x =>
      have hr' : va_Run p l e R s m args below meth c H locs cells slots 0 0 (F0 m pc ls st0) (rest.map (cf_v ad)) (va_Qi (fun (r : Int32) (_ : Unit) => r = x) (fun _ t => va_P D cf_cls (cf_ws cA ad w) t.heap) (cf_A ad) a) (cf_A ad) := hr
      refine va_calli hr' hS (fun x _ hx => hA x hx) hA (fun r u t H1 locs1 ht hvm hp hB1 hz hk hS1 => ?_)
      have hp : r = x := hp
      subst hp
      exact k H1 locs1 ls hL (by rw [← ht]; exact hB1) hS1
    | inr z =>
      intro T0 hT X
      obtain ⟨_, _, _, _, _, _, _, _, _, _, hq, _⟩ := hr T0 hT X
      exact hq.elim
theorem cf_S_callV (hM : ∀ as w q, F as w = some q → cf_Ct l y bytes nC ret d as w q) (hF : ∀ as w q, F as w = some q → ∃ (k : Nat) (as' : List cf_AV) (fs : List (Option Nat)), as = .inr k :: as' ∧ as'.length = n ∧ cf_shp k = .inr (ci, fs))
    (hc : cf_cls[ci]? = some (C, T, N)) (hcode : Cond.code y bytes nC ret ∈ lw_tbl) (hlink : Cond.methodLink own idx y ∈ lw_tbl) (hinst : Cond.instanceMethod y ∈ lw_tbl) (hsel : Cond.selects C y y ∈ lw_tbl) (hini : Cond.initialized y.cls ∈ lw_tbl)
    (hy : (y.cls ≠ "java/lang/invoke/MethodHandle" ∧ y.cls ≠ "java/lang/invoke/VarHandle") ∧ (parseMethodDescriptor y.desc).map (fun d => d.parameters.length) = some n) (hR : d + 1 ≤ R.frames ∧ 8 + (nC + 11) + 36 * d ≤ R.locals)
    (hd : decode cc pc = .ok (.invokevirtual idx, 3)) : cf_S l R cc nL own pc (cf_call (n + 1) F (pc + 3)) := by
  intro Z hC L st w
  obtain ⟨p, e, s, m, args, below, meth, c, cells, slots, Q, D, cA, ad, A⟩ := Z
  obtain ⟨hx, hb, hml, hown, hB, hK, hD, hc1, hc2⟩ := hC
  refine ⟨fun b h k => ?_, fun q h => ?_⟩
  · unfold cf_call at h
    cases hg : Nat.ble (st.drop (n + 1)).length 8 with
    | false => rw [hg] at h; exact nomatch h
    | true =>
      rw [hg] at h
      simp only [cond_true] at h
      cases hq : F (st.take (n + 1)).reverse w with
      | none => rw [hq] at h; cases h
      | some q =>
        rw [hq] at h
        obtain rfl := Sum.inl.inj (Option.some.inj h)
        obtain ⟨k0, as', fs, e1, e2, hs⟩ := hF _ _ _ hq
        have hm := hM _ _ _ hq D cA ad hD.1
        rw [e1] at hm
        have e3 : st.take (n + 1) = as'.reverse ++ [.inr k0] := by
          have := congrArg List.reverse e1
          rw [List.reverse_reverse, List.reverse_cons] at this
          exact this
        have est : st = as'.reverse ++ .inr k0 :: st.drop (n + 1) := by
          have h3 := List.take_append_drop (n + 1) st
          rw [e3, List.append_assoc] at h3
          exact h3.symm
        have hlen : (st.drop (n + 1)).length ≤ 8 := Nat.le_of_ble_eq_true hg
        intro H locs ls hL hP hS
        generalize st.drop (n + 1) = rest at *
        have h26 : k0 < 26 := cf_shp_o hs
        have hat : (cf_ws cA ad w)[k0]? = some (ad k0, .inr (ci, cf_fv ad (w k0) 0 fs)) := by rw [cf_ws_at, if_pos h26, cf_cel_o hs]
        have hcb : CallB R s args own idx y bytes nC ret [.code y bytes nC ret] (cf_rm d) 0 0 n := ⟨rfl, rfl, hR.1, hR.2, fun w9 hw9 a' U hW => by rw [List.mem_singleton.mp hw9]; exact word_at hW (Or.inl rfl) (hB.use hcode rfl args), List.mem_cons_self, hB.use hcode rfl args, hB.use hini rfl args, hy.1, fun sig h9 => by
          have h8 := hy.2
          rw [h9] at h8
          exact (Option.some.inj h8).symm, hB.use hlink rfl args⟩
        have hstk : (st.map (cf_v ad)) = (as'.map (cf_v ad)).reverse ++ .ref (ad k0) :: rest.map (cf_v ad) := by
          rw [est]; simp [cf_v]
        refine cf_after hD hL hS (va_runV (Ts := []) (As := as'.map (cf_v ad)) (rest := rest.map (cf_v ad)) ⟨hx, hb, hml, hown, fun _ h9 => by cases h9⟩ hm ⟨hcb, hB.use hinst rfl args, hB.use hsel rfl args⟩ ⟨cf_blind, va_recv hK hP hc hat, fun U hU hW => ⟨rfl, by rw [hU]; exact hP, va_K.moved hW.alike hK, hB.warm hW⟩⟩ rfl (by rw [List.length_map]; exact e2) hL.1 hstk (lv_room (by rw [cf_sum]; exact hlen)) hd ⟨hc1, hc2⟩) k
  · unfold cf_call at h
    cases hg : Nat.ble (st.drop (n + 1)).length 8 with
    | false => rw [hg] at h; exact nomatch h
    | true =>
      rw [hg] at h
      simp only [cond_true] at h
      cases hq : F (st.take (n + 1)).reverse w <;> rw [hq] at h <;> cases h
theorem cf_S_callS (hM : ∀ as w q, F as w = some q → cf_Ct l y bytes nC ret d as w q) (hF : ∀ as w q, F as w = some q → as.length = n)
    (hcode : Cond.code y bytes nC ret ∈ lw_tbl) (hlink : Cond.methodLink own idx y ∈ lw_tbl) (hsta : Cond.static y ∈ lw_tbl) (hini : Cond.initialized y.cls ∈ lw_tbl)
    (hy : (y.cls ≠ "java/lang/invoke/MethodHandle" ∧ y.cls ≠ "java/lang/invoke/VarHandle") ∧ (parseMethodDescriptor y.desc).map (fun d => d.parameters.length) = some n) (hR : d + 1 ≤ R.frames ∧ 8 + (nC + 11) + 36 * d ≤ R.locals)
    (hd : decode cc pc = .ok (.invokestatic idx, 3)) : cf_S l R cc nL own pc (cf_call n F (pc + 3)) := by
  intro Z hC L st w
  obtain ⟨p, e, s, m, args, below, meth, c, cells, slots, Q, D, cA, ad, A⟩ := Z
  obtain ⟨hx, hb, hml, hown, hB, hK, hD, hc1, hc2⟩ := hC
  refine ⟨fun b h k => ?_, fun q h => ?_⟩
  · unfold cf_call at h
    cases hg : Nat.ble (st.drop n).length 8 with
    | false => rw [hg] at h; exact nomatch h
    | true =>
      rw [hg] at h
      simp only [cond_true] at h
      cases hq : F (st.take n).reverse w with
      | none => rw [hq] at h; cases h
      | some q =>
        rw [hq] at h
        obtain rfl := Sum.inl.inj (Option.some.inj h)
        have e2 := hF _ _ _ hq
        have hm := hM _ _ _ hq D cA ad hD.1
        have est : st = (st.take n).reverse.reverse ++ st.drop n := by rw [List.reverse_reverse, List.take_append_drop]
        have hlen : (st.drop n).length ≤ 8 := Nat.le_of_ble_eq_true hg
        intro H locs ls hL hP hS
        generalize st.drop n = rest at *
        generalize (st.take n).reverse = as' at *
        have hcb : CallB R s args own idx y bytes nC ret [.code y bytes nC ret] (cf_rm d) 0 0 n := ⟨rfl, rfl, hR.1, hR.2, fun w9 hw9 a' U hW => by rw [List.mem_singleton.mp hw9]; exact word_at hW (Or.inl rfl) (hB.use hcode rfl args), List.mem_cons_self, hB.use hcode rfl args, hB.use hini rfl args, hy.1, fun sig h9 => by
          have h8 := hy.2
          rw [h9] at h8
          exact (Option.some.inj h8).symm, hB.use hlink rfl args⟩
        have hstk : (st.map (cf_v ad)) = (as'.map (cf_v ad)).reverse ++ rest.map (cf_v ad) := by
          rw [est]; simp
        refine cf_after hD hL hS (va_runS (Ts := []) (As := as'.map (cf_v ad)) (rest := rest.map (cf_v ad)) ⟨hx, hb, hml, hown, fun _ h9 => by cases h9⟩ hm ⟨hcb, hB.use hsta rfl args⟩ ⟨cf_blind, fun U hU hW => ⟨rfl, by rw [hU]; exact hP, va_K.moved hW.alike hK, hB.warm hW⟩⟩ rfl (by rw [List.length_map]; exact e2) hL.1 hstk (lv_room (by rw [cf_sum]; exact hlen)) hd ⟨hc1, hc2⟩) k
  · unfold cf_call at h
    cases hg : Nat.ble (st.drop n).length 8 with
    | false => rw [hg] at h; exact nomatch h
    | true =>
      rw [hg] at h
      simp only [cond_true] at h
      cases hq : F (st.take n).reverse w <;> rw [hq] at h <;> cases h
end Calls
/-! a method's contract out of its runs -/
def cf_ok (ret : Option FieldType) (q : cf_Rs) : Prop := match q.1 with
  | some (.inl x) => ret = some .int ∨ (ret = some .boolean ∧ (x = 0 ∨ x = 1))
  | some (.inr _) => False
  | none => ret = none
def cf_L0 (nL : Nat) (as : List cf_AV) : List (Option cf_AV) := as.map some ++ List.replicate (nL - as.length) none
theorem cf_lv_none (ad : Nat → Nat) : ∀ (k i : Nat), cf_lv ad i (List.replicate k none) = [] := by
  intro k
  induction k with
  | zero => intro i; rfl
  | succ k ih => intro i; rw [List.replicate_succ]; simp only [cf_lv]; exact ih (i + 1)
theorem cf_lv_args (ad : Nat → Nat) (k : Nat) : ∀ (as : List cf_AV) (i : Nat), cf_lv ad i (as.map some ++ List.replicate k none) = lv_args i (as.map (cf_v ad)) := by
  intro as
  induction as with
  | nil => intro i; exact cf_lv_none ad k i
  | cons a r ih =>
    intro i
    simp only [List.map_cons, List.cons_append, cf_lv, lv_args]
    rw [cf_v_cat, if_neg (by decide), ih (i + 1)]
theorem cf_sl (ad : Nat → Nat) : ∀ as : List cf_AV, (lg_sl (as.map (cf_v ad))).length = as.length := by
  intro as
  induction as with
  | nil => rfl
  | cons a r ih =>
    have e : lg_sl ((a :: r).map (cf_v ad)) = Slot.val (cf_v ad a) :: lg_sl (r.map (cf_v ad)) := by
      simp [lg_sl, cf_v_cat]
    rw [e, List.length_cons, ih, List.length_cons]
theorem cf_Ct.of {l : Launch} {y : MethodName} {cc : ByteArray} {nL d : Nat} {ret : Option FieldType} {as : List cf_AV} {w : cf_Wd} {q : cf_Rs} {T : Nat → cf_Rw} (hT : ∀ pc, cf_S l (cf_rm d) cc nL y.cls pc (T pc)) (hpl : plainName y.cls = true) (hret : cf_ok ret q) (hlen : as.length ≤ nL) (hr : cf_Runs T (0, cf_L0 nL as, [], w) q) : cf_Ct l y cc nL ret d as w q := by
  intro D cA ad inj
  refine Met.ofW (cc := cc) (maxL := nL) (ret := ret) hpl rfl ?_
  intro p e s m args below meth c s₁ B hml hv
  obtain ⟨rfl, hP, hK, hBs⟩ := hv
  have hown : s.vm.findClass y.cls = some m.cls := findClass_of_methodNamed B.named
  have hlk := B.notSynchronized
  have hx := B.exec
  have hb := B.bytes
  have hrt := B.returns
  have hC : cf_C (cf_rm d) cc nL y.cls (p, e, s, m, (as.map (cf_v ad)).toArray, below, meth, c, 0, 0, MQ below (cf_Q D cA ad q) (as.map (cf_v ad)).toArray s 0 0 (cf_A ad), D, cA, ad, cf_A ad) := ⟨hx, hb, hml, hown, hBs, hK, ⟨inj, fun k hk => ⟨k, hk, rfl⟩⟩, Nat.zero_le _, Nat.zero_le _⟩
  have hfin : cf_Fin l (cf_rm d) cc (p, e, s, m, (as.map (cf_v ad)).toArray, below, meth, c, 0, 0, MQ below (cf_Q D cA ad q) (as.map (cf_v ad)).toArray s 0 0 (cf_A ad), D, cA, ad, cf_A ad) q := by
    obtain ⟨v, w2⟩ := q
    cases v with
    | none =>
      intro H locs ls pc hd hP2 hS
      have hret : ret = none := hret
      subst hret
      exact W.vret hx hb hrt (fun t ht hW => ⟨⟨(), rfl, trivial, by show va_P D cf_cls (cf_ws cA ad w2) t.heap; rw [ht]; exact hP2⟩, hS.F ht⟩) hS.2.2 hd hlk
    | some v =>
      cases v with
      | inr z => exact hret.elim
      | inl x =>
        intro H locs ls pc hd hP2 hS
        rcases hret with hret | ⟨hret, h01⟩
        · subst hret
          exact W.zret (ty := .int) hx hb hrt rfl (fun t ht hW => ⟨⟨x, (), rfl, rfl, by show va_P D cf_cls (cf_ws cA ad w2) t.heap; rw [ht]; exact hP2⟩, hS.F ht⟩) hS.2.2 hd hlk
        · subst hret
          exact W.zret (ty := .boolean) hx hb hrt (by rcases h01 with rfl | rfl <;> rfl) (fun t ht hW => ⟨⟨x, (), rfl, rfl, by show va_P D cf_cls (cf_ws cA ad w2) t.heap; rw [ht]; exact hP2⟩, hS.F ht⟩) hS.2.2 hd hlk
  have key := hr (cf_R l (cf_rm d) nL (p, e, s, m, (as.map (cf_v ad)).toArray, below, meth, c, 0, 0, MQ below (cf_Q D cA ad q) (as.map (cf_v ad)).toArray s 0 0 (cf_A ad), D, cA, ad, cf_A ad)) (fun a b h k => (hT a.1 _ hC a.2.1 a.2.2.1 a.2.2.2).1 b h k) (fun a h => (hT a.1 _ hC a.2.1 a.2.2.1 a.2.2.2).2 q h hfin)
  have hl := lv_entry (as.map (cf_v ad)) (n := nL) (by rw [cf_sl]; exact hlen)
  rw [lg_entry_eq]
  refine key s.heap [] _ ?_ hP va_S.rf
  show lv_has _ nL (cf_lv ad 0 (as.map some ++ List.replicate (nL - as.length) none))
  rw [cf_lv_args]
  exact hl
