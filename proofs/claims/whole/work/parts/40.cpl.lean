/-! what a commit that is made later, or a verdict that comes later, leaves as it was -/
theorem cf_lz_e {A A' : Nat → Int32} {S : Int32} {c : Nat} (h : A' c = A c) : cf_lz A' S c = cf_lz A S c := by
  unfold cf_lz
  rw [h]
theorem cf_mid_ext {A A' : Nat → Int32} {N N' : Nat} {S T : Int32} {wo : Nat} (hN : N ≤ N') (hN' : N' ≤ 14) (hA : ∀ c, c < N → A' c = A c) (hS : ∀ i, N ≤ i → i < 14 → bt S i = false) : cf_mid A' N' S T wo = cf_mid A N S T wo := by
  obtain ⟨m1, h1⟩ := cf_mid_b (A := A') (S := S) (T := T) (wo := wo) hN'
  obtain ⟨m2, h2⟩ := cf_mid_b (A := A) (N := N) (S := S) (T := T) (wo := wo) (by omega)
  have hel : ∀ c, N ≤ c → c < 14 → cf_el S T wo c = false := fun c c1 c2 => by simp [cf_el, hS c c1 c2]
  have h1' : cf_Bst (cf_el S T wo) (cf_lz A S) 0 N (cf_mid A' N' S T wo) m1 := by
    rcases h1 with ⟨e1, e2, e3⟩ | ⟨c, c1, c2, c3, c4, c5, c6, c7⟩
    · exact Or.inl ⟨e1, e2, fun c a1 a2 => e3 c a1 (by omega)⟩
    · have hcN : c < N := by
        by_cases h : c < N
        · exact h
        · have := hel c (by omega) (by omega)
          rw [this] at c3
          cases c3
      refine Or.inr ⟨c, c1, hcN, c3, c4, by rw [c5, cf_lz_e (hA c hcN)], fun d d1 d2 d3 => ?_, fun d d1 d2 d3 => ?_⟩
      · have := c6 d d1 (by omega) d3
        rw [cf_lz_e (hA c hcN), cf_lz_e (hA d d2)] at this
        exact this
      · have := c7 d d1 d2 d3
        rw [cf_lz_e (hA c hcN), cf_lz_e (hA d (by omega))] at this
        exact this
  exact cf_Bst_fn h1' h2
theorem cf_hv_ext {A A' : Nat → Int32} {N N' : Nat} {V : Int32 → Int32} (hN : N ≤ N') (hN' : N' ≤ 14) (hA : ∀ c, c < N → A' c = A c) : ∀ f wo T S, (∀ i, N ≤ i → i < 14 → bt S i = false) → cf_hv A' N' V f wo T S = cf_hv A N V f wo T S := by
  intro f
  induction f with
  | zero => intro wo T S _; rfl
  | succ f ih =>
    intro wo T S hS
    simp only [cf_hv]
    rw [cf_mid_ext hN hN' hA hS]
    rcases cf_mid_c (A := A) (N := N) (S := S) (T := T) (wo := wo) (by omega) with e | ⟨c, hc, e, _⟩
    · rw [if_pos e, if_pos e]
    · have cl : (nI c).toNatClampNeg = c := nI_clamp (by omega)
      rw [e, cl, hA c hc]
      have nm : ¬ nI c = -1 := by rw [cf_m1 (by omega)]; exact id
      rw [if_neg nm, if_neg nm]
      by_cases h0 : V (nI c) = 0
      · rw [if_pos h0, if_pos h0]
      · rw [if_neg h0, if_neg h0]
        refine ih _ _ _ (fun i i1 i2 => ?_)
        by_cases h2 : V (nI c) = 2
        · rw [if_pos h2, b_and, hS i i1 i2]
          rfl
        · rw [if_neg h2]
          by_cases h1 : V (nI c) = 1
          · rw [if_pos h1, b_and, hS i i1 i2]
            rfl
          · rw [if_neg h1]
            exact hS i i1 i2
theorem cf_hv_mono {A : Nat → Int32} {N : Nat} {V V' : Int32 → Int32} (hV : ∀ t, V t ≠ 0 → V' t = V t) : ∀ f wo T S, (cf_hv A N V f wo T S).1 = 3 → cf_hv A N V' f wo T S = cf_hv A N V f wo T S := by
  intro f
  induction f with
  | zero =>
    intro wo T S h
    rfl
  | succ f ih =>
    intro wo T S h
    simp only [cf_hv] at h ⊢
    by_cases h1 : cf_mid A N S T wo = -1
    · rw [if_pos h1, if_pos h1]
    · rw [if_neg h1] at h
      rw [if_neg h1, if_neg h1]
      by_cases h0 : V (cf_mid A N S T wo) = 0
      · rw [if_pos h0] at h
        have h : (2 : Int32) = 3 := h
        rw [cf_q_2_3] at h
        exact h.elim
      · rw [if_neg h0] at h
        have e := hV _ h0
        rw [e, if_neg h0, if_neg h0]
        exact ih _ _ _ h
/-! counting the tested -/
theorem cf_pn_or : ∀ f m c, c < f → m.testBit c = false → cf_pn f (m ||| 2 ^ c) = cf_pn f m + 1 := by
  intro f
  induction f with
  | zero => intro m c h; omega
  | succ f ih =>
    intro m c hc hb
    rw [cf_pn_s, cf_pn_s, Nat.or_div_two]
    have hm := Nat.or_mod_two_pow (a := m) (b := 2 ^ c) (n := 1)
    simp only [Nat.pow_one] at hm
    rw [hm]
    cases c with
    | zero =>
      have h0 : m % 2 = 0 := by
        rw [Nat.testBit_zero, decide_eq_false_iff_not] at hb
        omega
      have e1 : (2 : Nat) ^ 0 / 2 = 0 := rfl
      have e2 : (2 : Nat) ^ 0 % 2 = 1 := rfl
      rw [e1, e2, h0, Nat.or_zero]
      have e3 : (0 : Nat) ||| 1 = 1 := rfl
      rw [e3]
      omega
    | succ c =>
      have e1 : (2 : Nat) ^ (c + 1) / 2 = 2 ^ c := by rw [Nat.pow_succ]; omega
      have e2 : (2 : Nat) ^ (c + 1) % 2 = 0 := by rw [Nat.pow_succ]; omega
      rw [e1, e2, Nat.or_zero, ih (m / 2) c (by omega) (by rw [Nat.testBit_div_two]; exact hb)]
      omega
theorem cf_sh31 : ∀ k, k < 31 → (1 : Int32) <<< (nI k &&& 31) = nI (2 ^ k) := by decide +kernel
theorem cf_pw_or {T : Int32} {c : Nat} (hc : c < 14) (hb : bt T c = false) : cf_pw (T ||| 1 <<< (nI c &&& 31)) = cf_pw T + 1 := by
  have h1 : T.toBitVec.toNat < 2 ^ 32 := T.toBitVec.isLt
  have h2 : (2 : Nat) ^ c < 2 ^ 32 := Nat.pow_lt_pow_right (by decide) (by omega)
  have e : (T ||| 1 <<< (nI c &&& 31)).toBitVec.toNat = T.toBitVec.toNat ||| 2 ^ c := by
    rw [cf_sh31 c (by omega), Int32.toBitVec_or, BitVec.toNat_or, cf_tn h2]
  unfold cf_pw cf_pop
  rw [e]
  exact cf_pn_or 14 _ c hc hb
theorem bt_or_sh {T : Int32} {c i : Nat} (hc : c < 32) (hi : i < 32) : bt (T ||| 1 <<< (nI c &&& 31)) i = (bt T i || decide (i = c)) := by
  rw [b_or, bt_sh hc hi]
theorem cf_pw_T0 {b g : Nat} (hb : b < 14) (hg : g < 14) (h : g ≠ b) : cf_pw (1 <<< (nI b &&& 31) ||| 1 <<< (nI g &&& 31)) = 2 := by
  have h0 : cf_pw (0 : Int32) = 0 := by decide +kernel
  have z : ∀ x : Int32, 0 ||| x = x := fun x => by
    apply b_ext
    intro i _
    rw [b_or, b_0]
    rfl
  have e1 := cf_pw_or (T := 0) hb (b_0 b)
  rw [z, h0] at e1
  rw [cf_pw_or hg (by rw [bt_sh (by omega) (by omega)]; simp [h]), e1]
/-! suspects -/
theorem cf_s2 {Aw Ac cl : Int32} (h : ∀ i, i < 32 → bt Ac i = true → bt Aw i = true) : (Aw &&& (cl ^^^ -1)) &&& Ac = Ac &&& (cl ^^^ -1) := by
  apply b_ext
  intro i hi
  rw [b_and, b_and, b_and]
  have := h i hi
  cases hc : bt Ac i
  · simp
  · rw [this hc]
    simp
theorem cf_s1 {Aw Ac cl : Int32} : (Aw &&& (cl ^^^ -1)) &&& (Ac ^^^ -1) = Aw &&& ((cl ||| Ac) ^^^ -1) := by
  apply b_ext
  intro i hi
  rw [b_and, b_and, b_and, b_xor, b_xor, b_xor, b_or, b_m1 i hi]
  cases bt Aw i <;> cases bt cl i <;> cases bt Ac i <;> rfl
