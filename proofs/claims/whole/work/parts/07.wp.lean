/-! what a run comes to: the weakest premise; a method as a function, by its table of rows -/
def cf_K (T : Nat → cf_Rw) (r : Option (cf_Cfg ⊕ cf_Rs)) (q : cf_Rs) : Prop := match r with
  | some (.inl b) => cf_Runs T b q
  | some (.inr q1) => q1 = q
  | none => False
theorem cf_go {T : Nat → cf_Rw} {a : cf_Cfg} {q : cf_Rs} : cf_Runs T a q ↔ cf_K T (cf_st T a) q := by
  constructor
  · intro h
    have h2 : cf_K T (cf_st T a) q ∧ cf_Runs T a q := by
      refine h (fun x => cf_K T (cf_st T x) q ∧ cf_Runs T x q) (fun a b e hb => ⟨?_, cf_Runs.one e hb.2⟩) (fun a e => ⟨?_, cf_Runs.fin e⟩)
      · have e2 : cf_st T a = some (.inl b) := e
        rw [e2]
        exact hb.2
      · have e2 : cf_st T a = some (.inr q) := e
        rw [e2]
        exact rfl
    exact h2.1
  · intro h
    cases hs : cf_st T a with
    | none => rw [hs] at h; exact h.elim
    | some o =>
      cases o with
      | inl b => rw [hs] at h; exact cf_Runs.one hs h
      | inr q1 =>
        rw [hs] at h
        have e : q1 = q := h
        subst e
        exact cf_Runs.fin hs
theorem cf_Runs.det {T : Nat → cf_Rw} {a : cf_Cfg} {q : cf_Rs} (h : cf_Runs T a q) : ∀ q1, cf_Runs T a q1 → q1 = q := by
  refine h (fun x => ∀ q1, cf_Runs T x q1 → q1 = q) (fun a b e ih q1 h1 => ih q1 ?_) (fun a e q1 h1 => ?_)
  · have e2 : cf_st T a = some (.inl b) := e
    have h2 := cf_go.mp h1
    rw [e2] at h2
    exact h2
  · have e2 : cf_st T a = some (.inr q) := e
    have h2 := cf_go.mp h1
    rw [e2] at h2
    have h3 : q = q1 := h2
    exact h3.symm
def cf_wp (T : Nat → cf_Rw) (a : cf_Cfg) (Q : cf_Rs → Prop) : Prop := ∃ q, cf_Runs T a q ∧ Q q
theorem cf_w1 {T : Nat → cf_Rw} {a b : cf_Cfg} {Q : cf_Rs → Prop} (h : cf_st T a = some (.inl b)) : cf_wp T a Q ↔ cf_wp T b Q := by
  constructor
  · intro ⟨q, h1, h2⟩
    have h3 := cf_go.mp h1
    rw [h] at h3
    exact ⟨q, h3, h2⟩
  · intro ⟨q, h1, h2⟩
    exact ⟨q, cf_Runs.one h h1, h2⟩
theorem cf_w0 {T : Nat → cf_Rw} {a : cf_Cfg} {Q : cf_Rs → Prop} (h : cf_st T a = none) : ¬ cf_wp T a Q := by
  intro ⟨q, h1, h2⟩
  have h3 := cf_go.mp h1
  rw [h] at h3
  exact h3
theorem cf_wi {T : Nat → cf_Rw} {a b1 b2 : cf_Cfg} {Q : cf_Rs → Prop} {c : Prop} [inst : Decidable c] (h : cf_st T a = some (.inl (if c then b1 else b2))) : cf_wp T a Q ↔ (if c then cf_wp T b1 Q else cf_wp T b2 Q) := by
  by_cases hc : c
  · rw [if_pos hc] at h
    rw [if_pos hc]
    exact cf_w1 h
  · rw [if_neg hc] at h
    rw [if_neg hc]
    exact cf_w1 h
theorem cf_wg {T : Nat → cf_Rw} {a b : cf_Cfg} {Q : cf_Rs → Prop} {g : Bool} (h : cf_st T a = bif g then some (.inl b) else none) : cf_wp T a Q ↔ (g = true ∧ cf_wp T b Q) := by
  cases g with
  | false =>
    have h' : cf_st T a = none := h
    exact ⟨fun x => (cf_w0 h' x).elim, fun x => nomatch x.1⟩
  | true =>
    have h' : cf_st T a = some (.inl b) := h
    exact ⟨fun x => ⟨rfl, (cf_w1 h').mp x⟩, fun x => (cf_w1 h').mpr x.2⟩
theorem cf_wr {T : Nat → cf_Rw} {a : cf_Cfg} {q : cf_Rs} {Q : cf_Rs → Prop} (h : cf_st T a = some (.inr q)) : cf_wp T a Q ↔ Q q := by
  constructor
  · intro ⟨q1, h1, h2⟩
    have h3 := cf_go.mp h1
    rw [h] at h3
    have h4 : q = q1 := h3
    rw [h4]
    exact h2
  · intro h2
    exact ⟨q, cf_Runs.fin h, h2⟩
theorem cf_wc {T : Nat → cf_Rw} {pc n nx : Nat} {F : List cf_AV → cf_Wd → Option cf_Rs} {L : List (Option cf_AV)} {st : List cf_AV} {w : cf_Wd} {Q : cf_Rs → Prop} (hT : T pc = cf_call n F nx) (hl : Nat.ble (st.drop n).length 8 = true) : cf_wp T (pc, L, st, w) Q ↔ ∃ r, F (st.take n).reverse w = some r ∧ cf_wp T (nx, L, r.1.toList ++ st.drop n, r.2) Q := by
  have e : cf_st T (pc, L, st, w) = (match F (st.take n).reverse w with
    | some q => some (.inl (nx, L, q.1.toList ++ st.drop n, q.2))
    | none => none) := by
    show T pc L st w = _
    rw [hT]
    unfold cf_call
    rw [hl]
    rfl
  constructor
  · intro h
    cases hF : F (st.take n).reverse w with
    | none => rw [hF] at e; exact (cf_w0 e h).elim
    | some r => rw [hF] at e; exact ⟨r, rfl, (cf_w1 e).mp h⟩
  · intro ⟨r, hF, h⟩
    rw [hF] at e
    exact (cf_w1 e).mpr h
theorem cf_wci {T : Nat → cf_Rw} {pc n nx : Nat} {F : List cf_AV → cf_Wd → Option cf_Rs} {L : List (Option cf_AV)} {st : List cf_AV} {w : cf_Wd} {Q : cf_Rs → Prop} (hT : T pc = cf_call n F nx) (hl : Nat.ble (st.drop n).length 8 = true) (hk : ∀ as w q, F as w = some q → ∃ x, q.1 = some (.inl x)) : cf_wp T (pc, L, st, w) Q ↔ ∃ x w1, F (st.take n).reverse w = some (some (.inl x), w1) ∧ cf_wp T (nx, L, .inl x :: st.drop n, w1) Q := by
  refine (cf_wc hT hl).trans ⟨fun ⟨r, h1, h2⟩ => ?_, fun ⟨x, w1, h1, h2⟩ => ⟨_, h1, h2⟩⟩
  obtain ⟨x, hx⟩ := hk _ _ _ h1
  obtain ⟨v, w1⟩ := r
  have hx : v = some (.inl x) := hx
  subst hx
  exact ⟨x, w1, h1, h2⟩
theorem cf_wcv {T : Nat → cf_Rw} {pc n nx : Nat} {F : List cf_AV → cf_Wd → Option cf_Rs} {L : List (Option cf_AV)} {st : List cf_AV} {w : cf_Wd} {Q : cf_Rs → Prop} (hT : T pc = cf_call n F nx) (hl : Nat.ble (st.drop n).length 8 = true) (hk : ∀ as w q, F as w = some q → q.1 = none) : cf_wp T (pc, L, st, w) Q ↔ ∃ w1, F (st.take n).reverse w = some (none, w1) ∧ cf_wp T (nx, L, st.drop n, w1) Q := by
  refine (cf_wc hT hl).trans ⟨fun ⟨r, h1, h2⟩ => ?_, fun ⟨w1, h1, h2⟩ => ⟨_, h1, h2⟩⟩
  have hx := hk _ _ _ h1
  obtain ⟨v, w1⟩ := r
  have hx : v = none := hx
  subst hx
  exact ⟨w1, h1, h2⟩
theorem cf_xi {o : Option cf_Rs} {x1 : Int32} {w1 : cf_Wd} {P : Int32 → cf_Wd → Prop} (hs : o = some (some (.inl x1), w1)) : (∃ x w, o = some (some (.inl x), w) ∧ P x w) ↔ P x1 w1 := by
  constructor
  · intro ⟨x, w, h1, h2⟩
    rw [hs] at h1
    have h3 := Option.some.inj h1
    have h4 : x1 = x := Sum.inl.inj (Option.some.inj (congrArg Prod.fst h3))
    have h5 : w1 = w := congrArg Prod.snd h3
    rw [h4, h5]
    exact h2
  · intro h
    exact ⟨x1, w1, hs, h⟩
theorem cf_xv {o : Option cf_Rs} {w1 : cf_Wd} {P : cf_Wd → Prop} (hs : o = some (none, w1)) : (∃ w, o = some (none, w) ∧ P w) ↔ P w1 := by
  constructor
  · intro ⟨w, h1, h2⟩
    rw [hs] at h1
    have h5 : w1 = w := congrArg Prod.snd (Option.some.inj h1)
    rw [h5]
    exact h2
  · intro h
    exact ⟨w1, hs, h⟩
/-! a method as a function -/
def cf_shV (k0 n : Nat) : List cf_AV → Bool
  | .inr k :: r => Nat.beq k k0 && Nat.beq r.length n
  | _ => false
def cf_shS (n : Nat) (as : List cf_AV) : Bool := Nat.beq as.length n
def cf_Fp (T : Nat → cf_Rw) (nL : Nat) (ret : Option FieldType) (sh : List cf_AV → Bool) (as : List cf_AV) (w : cf_Wd) (q : cf_Rs) : Prop := sh as = true ∧ as.length ≤ nL ∧ cf_ok ret q ∧ cf_Runs T (0, cf_L0 nL as, [], w) q
noncomputable def cf_F (T : Nat → cf_Rw) (nL : Nat) (ret : Option FieldType) (sh : List cf_AV → Bool) (as : List cf_AV) (w : cf_Wd) : Option cf_Rs :=
  @dite (Option cf_Rs) (∃ q, cf_Fp T nL ret sh as w q) (Classical.propDecidable _) (fun h => some h.choose) (fun _ => none)
section Fun
variable {T : Nat → cf_Rw} {nL : Nat} {ret : Option FieldType} {sh : List cf_AV → Bool} {as : List cf_AV} {w : cf_Wd} {q : cf_Rs}
theorem cf_F_some (h : cf_F T nL ret sh as w = some q) : cf_Fp T nL ret sh as w q := by
  unfold cf_F at h
  by_cases hx : ∃ q, cf_Fp T nL ret sh as w q
  · rw [dif_pos hx] at h
    rw [← Option.some.inj h]
    exact hx.choose_spec
  · rw [dif_neg hx] at h
    cases h
theorem cf_F_eq (h : cf_Fp T nL ret sh as w q) : cf_F T nL ret sh as w = some q := by
  unfold cf_F
  have hx : ∃ q, cf_Fp T nL ret sh as w q := ⟨q, h⟩
  rw [dif_pos hx]
  exact congrArg some (h.2.2.2.det _ hx.choose_spec.2.2.2)
theorem cf_F_i : ∀ as w q, cf_F T nL (some .int) sh as w = some q → ∃ x, q.1 = some (.inl x) := by
  intro as w q h
  have h2 := (cf_F_some h).2.2.1
  obtain ⟨v, w1⟩ := q
  cases v with
  | none => exact nomatch h2
  | some v => cases v with
    | inl x => exact ⟨x, rfl⟩
    | inr k => exact h2.elim
theorem cf_F_b : ∀ as w q, cf_F T nL (some .boolean) sh as w = some q → ∃ x, q.1 = some (.inl x) := by
  intro as w q h
  have h2 := (cf_F_some h).2.2.1
  obtain ⟨v, w1⟩ := q
  cases v with
  | none => exact nomatch h2
  | some v => cases v with
    | inl x => exact ⟨x, rfl⟩
    | inr k => exact h2.elim
theorem cf_F_v : ∀ as w q, cf_F T nL none sh as w = some q → q.1 = none := by
  intro as w q h
  have h2 := (cf_F_some h).2.2.1
  obtain ⟨v, w1⟩ := q
  cases v with
  | none => rfl
  | some v => cases v with
    | inl x => rcases h2 with h2 | h2
               · exact nomatch h2
               · exact nomatch h2.1
    | inr k => exact h2.elim
theorem cf_F_ct {l : Launch} {y : MethodName} {cc : ByteArray} {d : Nat} (hT : ∀ pc, cf_S l (cf_rm d) cc nL y.cls pc (T pc)) (hpl : plainName y.cls = true) : ∀ as w q, cf_F T nL ret sh as w = some q → cf_Ct l y cc nL ret d as w q := fun as w q h =>
  cf_Ct.of hT hpl (cf_F_some h).2.2.1 (cf_F_some h).2.1 (cf_F_some h).2.2.2
theorem cf_shS_of {n : Nat} : ∀ as w q, cf_F T nL ret (cf_shS n) as w = some q → as.length = n := fun as w q h => Nat.eq_of_beq_eq_true (cf_F_some h).1
theorem cf_shV_of {k0 n ci : Nat} {fs : List (Option Nat)} (h0 : cf_shp k0 = .inr (ci, fs)) : ∀ as w q, cf_F T nL ret (cf_shV k0 n) as w = some q → ∃ (k : Nat) (as' : List cf_AV) (fs : List (Option Nat)), as = .inr k :: as' ∧ as'.length = n ∧ cf_shp k = .inr (ci, fs) := by
  intro as w q h
  have h1 := (cf_F_some h).1
  unfold cf_shV at h1
  split at h1
  · rename_i k r
    have h2 := Bool.and_eq_true_iff.mp h1
    have e : k = k0 := Nat.eq_of_beq_eq_true h2.1
    subst e
    exact ⟨k, r, fs, rfl, Nat.eq_of_beq_eq_true h2.2, h0⟩
  · cases h1
end Fun
def cf_qi (P : Int32 → cf_Wd → Prop) : cf_Rs → Prop
  | (some (.inl x), w) => P x w
  | _ => False
def cf_qb (P : Int32 → cf_Wd → Prop) : cf_Rs → Prop
  | (some (.inl x), w) => (x = 0 ∨ x = 1) ∧ P x w
  | _ => False
def cf_qv (P : cf_Wd → Prop) : cf_Rs → Prop
  | (none, w) => P w
  | _ => False
section Ent
variable {T : Nat → cf_Rw} {nL : Nat} {sh : List cf_AV → Bool} {as : List cf_AV} {w : cf_Wd} {P : Int32 → cf_Wd → Prop} {Pv : cf_Wd → Prop}
theorem cf_ei (hs : sh as = true) (hl : as.length ≤ nL) (h : cf_wp T (0, cf_L0 nL as, [], w) (cf_qi P)) : ∃ x w1, cf_F T nL (some .int) sh as w = some (some (.inl x), w1) ∧ P x w1 := by
  obtain ⟨⟨v, w1⟩, h1, h2⟩ := h
  cases v with
  | none => exact h2.elim
  | some v => cases v with
    | inr k => exact h2.elim
    | inl x => exact ⟨x, w1, cf_F_eq ⟨hs, hl, Or.inl rfl, h1⟩, h2⟩
theorem cf_eb (hs : sh as = true) (hl : as.length ≤ nL) (h : cf_wp T (0, cf_L0 nL as, [], w) (cf_qb P)) : ∃ x w1, cf_F T nL (some .boolean) sh as w = some (some (.inl x), w1) ∧ P x w1 := by
  obtain ⟨⟨v, w1⟩, h1, h2⟩ := h
  cases v with
  | none => exact h2.elim
  | some v => cases v with
    | inr k => exact h2.elim
    | inl x => exact ⟨x, w1, cf_F_eq ⟨hs, hl, Or.inr ⟨rfl, h2.1⟩, h1⟩, h2.2⟩
theorem cf_ev (hs : sh as = true) (hl : as.length ≤ nL) (h : cf_wp T (0, cf_L0 nL as, [], w) (cf_qv Pv)) : ∃ w1, cf_F T nL none sh as w = some (none, w1) ∧ Pv w1 := by
  obtain ⟨⟨v, w1⟩, h1, h2⟩ := h
  cases v with
  | none => exact ⟨w1, cf_F_eq ⟨hs, hl, rfl, h1⟩, h2⟩
  | some v => exact h2.elim
end Ent
/-- an answer that is known -/
theorem cf_is {o : Option cf_Rs} {x0 : Int32} {w0 : cf_Wd} (h : ∃ x w1, o = some (some (.inl x), w1) ∧ (x = x0 ∧ w1 = w0)) : o = some (some (.inl x0), w0) := by
  obtain ⟨x, w1, h1, h2, h3⟩ := h
  rw [h1, h2, h3]
theorem cf_isv {o : Option cf_Rs} {w0 : cf_Wd} (h : ∃ w1, o = some (none, w1) ∧ w1 = w0) : o = some (none, w0) := by
  obtain ⟨w1, h1, h3⟩ := h
  rw [h1, h3]
theorem cf_alen_e {T : Nat → cf_Rw} {pc nx k N : Nat} {L : List (Option cf_AV)} {st : List cf_AV} {w : cf_Wd} (hk : cf_shp k = .inl N) (h26 : Nat.blt k 26 = true) (hT : T pc = cf_alen nx) : cf_st T (pc, L, .inr k :: st, w) = some (.inl (nx, L, .inl (nI N) :: st, w)) := by
  show T pc L (.inr k :: st) w = _
  rw [hT]
  unfold cf_alen
  simp only [hk, h26, cond_true]
theorem cf_iast_e {T : Nat → cf_Rw} {pc nx k N : Nat} {x i : Int32} {L : List (Option cf_AV)} {st : List cf_AV} {w : cf_Wd} (hk : cf_shp k = .inl N) (hT : T pc = cf_iast nx) : cf_st T (pc, L, .inl x :: .inl i :: .inr k :: st, w) = bif cf_in i N then some (.inl (nx, L, st, cf_wa w k (upd (w k) i.toNatClampNeg x))) else none := by
  show T pc L (.inl x :: .inl i :: .inr k :: st) w = _
  rw [hT]
  unfold cf_iast
  simp only [hk]
theorem cf_tsw_e {T : Nat → cf_Rw} {pc d t : Nat} {lo hi : Int} {tg : List Nat} {x : Int32} {L : List (Option cf_AV)} {st : List cf_AV} {w : cf_Wd} (hT : T pc = cf_tsw lo hi d tg) (ht : (if x.toInt < lo ∨ hi < x.toInt then d else tg.getD (x.toInt - lo).toNat 0) = t) : cf_st T (pc, L, .inl x :: st, w) = some (.inl (t, L, st, w)) := by
  show T pc L (.inl x :: st) w = _
  rw [hT]
  unfold cf_tsw
  simp only [ht]
/-! truth as an int -/
def cf_b (b : Bool) : Int32 := bif b then 1 else 0
theorem cf_b01 (b : Bool) : cf_b b = 0 ∨ cf_b b = 1 := by cases b <;> simp [cf_b]
theorem cf_b_e0 {b : Bool} : (cf_b b = 0) ↔ b = false := by cases b <;> decide
theorem cf_b_e1 {b : Bool} : (cf_b b = 1) ↔ b = true := by cases b <;> decide
theorem cf_b_z (b : Bool) : (cf_b b == 0 || cf_b b == 1) = true := by cases b <;> decide
theorem cf_b_inj {a b : Bool} : (cf_b a = cf_b b) ↔ a = b := by cases a <;> cases b <;> decide
theorem cf_n100 : (!((100 : Int32) == 0)) = true := by decide
theorem cf_n10 : (!((10 : Int32) == 0)) = true := by decide
theorem cf_1n0 : ((1 : Int32) = 0) = False := by simp
theorem cf_z0 : ((0 : Int32) == 0 || (0 : Int32) == 1) = true := by decide
theorem cf_z1 : ((1 : Int32) == 0 || (1 : Int32) == 1) = true := by decide
