/-! counting bits -/
def cf_pn : Nat → Nat → Nat
  | 0, _ => 0
  | f + 1, m => Nat.add (Nat.mod m 2) (cf_pn f (Nat.div m 2))
def cf_pop (m : Nat) : Nat := cf_pn 14 m
def cf_pw (x : Int32) : Nat := cf_pop x.toBitVec.toNat
def cf_m14 (x : Int32) : Prop := x.toBitVec.toNat < 16384
theorem cf_tn {m : Nat} (h : m < 2 ^ 32) : (nI m).toBitVec.toNat = m := by
  show (BitVec.ofNat 32 m).toNat = m
  rw [BitVec.toNat_ofNat, Nat.mod_eq_of_lt h]
theorem cf_of (x : Int32) : x = nI x.toBitVec.toNat := Int32.toBitVec_inj.mp (by show _ = BitVec.ofNat 32 _; simp)
theorem cf_m14_n {m : Nat} (h : m < 16384) : cf_m14 (nI m) := by
  unfold cf_m14
  rw [cf_tn (by omega)]
  exact h
theorem cf_m14_and {x y : Int32} (h : cf_m14 x) : cf_m14 (x &&& y) := by
  unfold cf_m14 at *
  rw [Int32.toBitVec_and, BitVec.toNat_and]
  exact Nat.lt_of_le_of_lt Nat.and_le_left h
theorem cf_pn_s (f m : Nat) : cf_pn (f + 1) m = m % 2 + cf_pn f (m / 2) := rfl
theorem cf_pn_le : ∀ f m, cf_pn f m ≤ f := by
  intro f
  induction f with
  | zero => intro m; exact Nat.le_refl 0
  | succ f ih =>
    intro m
    rw [cf_pn_s]
    have := ih (m / 2)
    omega
theorem cf_pn_mono : ∀ f a b, (∀ i, i < f → a.testBit i = true → b.testBit i = true) → cf_pn f a ≤ cf_pn f b := by
  intro f
  induction f with
  | zero => intro a b _; exact Nat.le_refl 0
  | succ f ih =>
    intro a b h
    rw [cf_pn_s, cf_pn_s]
    have h1 := ih (a / 2) (b / 2) (fun i hi ha => by
      rw [Nat.testBit_div_two] at ha ⊢
      exact h (i + 1) (by omega) ha)
    have h0 := h 0 (by omega)
    simp only [Nat.testBit_zero, decide_eq_true_eq] at h0
    omega
theorem cf_pn_kern : ∀ f m, m ≠ 0 → m < 2 ^ f → cf_pn f (m &&& (m - 1)) + 1 = cf_pn f m := by
  intro f
  induction f with
  | zero => intro m h0 h; simp at h; omega
  | succ f ih =>
    intro m h0 h
    rw [cf_pn_s, cf_pn_s, Nat.and_div_two]
    have hm := Nat.and_mod_two_pow (a := m) (b := m - 1) (n := 1)
    simp only [Nat.pow_one] at hm
    rcases Nat.mod_two_eq_zero_or_one m with e | e
    · have e1 : (m - 1) % 2 = 1 := by omega
      rw [e, e1] at hm
      have hz : (0 : Nat) &&& 1 = 0 := rfl
      rw [hz] at hm
      have e2 : (m - 1) / 2 = m / 2 - 1 := by omega
      have hp : 2 ^ (f + 1) = 2 * 2 ^ f := by rw [Nat.pow_succ]; omega
      have := ih (m / 2) (by omega) (by omega)
      rw [hm, e, e2]
      omega
    · have e1 : (m - 1) % 2 = 0 := by omega
      rw [e, e1] at hm
      have hz : (1 : Nat) &&& 0 = 0 := rfl
      rw [hz] at hm
      have e2 : (m - 1) / 2 = m / 2 := by omega
      rw [hm, e, e2, Nat.and_self]
      omega
theorem cf_pw_le {x y : Int32} (h : ∀ i, i < 14 → bt x i = true → bt y i = true) : cf_pw x ≤ cf_pw y := cf_pn_mono 14 _ _ h
theorem cf_pw_and (x y : Int32) : cf_pw (x &&& y) ≤ cf_pw y := cf_pw_le (fun i _ h => by
  rw [b_and, Bool.and_eq_true] at h
  exact h.2)
theorem cf_pw_14 (x : Int32) : cf_pw x ≤ 14 := cf_pn_le 14 _
/-! Integer.bitCount on numbers below 2^14 -/
def cf_b1 (m : Nat) : Nat := Nat.sub m (Nat.land (Nat.div m 2) 1431655765)
def cf_b2 (m : Nat) : Nat := Nat.add (Nat.land m 858993459) (Nat.land (Nat.div m 4) 858993459)
def cf_b3 (m : Nat) : Nat := Nat.land (Nat.add m (Nat.div m 16)) 252645135
def cf_b4 (m : Nat) : Nat := Nat.add m (Nat.div m 256)
def cf_b5 (m : Nat) : Nat := Nat.add m (Nat.div m 65536)
def cf_bN (m : Nat) : Nat := Nat.land (cf_b5 (cf_b4 (cf_b3 (cf_b2 (cf_b1 m))))) 63
def cf_all (p : Nat → Bool) : Nat → Bool
  | 0 => true
  | n + 1 => match p n with
    | true => cf_all p n
    | false => false
theorem cf_all_i {p : Nat → Bool} : ∀ n, cf_all p n = true → ∀ i, i < n → p i = true := by
  intro n
  induction n with
  | zero => intro _ i hi; exact absurd hi (Nat.not_lt_zero i)
  | succ n ih =>
    intro h i hi
    unfold cf_all at h
    cases hp : p n with
    | false => rw [hp] at h; cases h
    | true =>
      rw [hp] at h
      by_cases e : i = n
      · subst e; exact hp
      · exact ih h i (by omega)
def cf_chk (k : Nat) : Bool := cf_all (fun a => cf_all (fun b => Nat.beq (cf_bN (Nat.add (Nat.mul 64 (Nat.add (Nat.mul 16 k) a)) b)) (cf_pn 14 (Nat.add (Nat.mul 64 (Nat.add (Nat.mul 16 k) a)) b))) 64) 16
theorem cf_chk0 : cf_chk 0 = true := by decide +kernel
theorem cf_chk1 : cf_chk 1 = true := by decide +kernel
theorem cf_chk2 : cf_chk 2 = true := by decide +kernel
theorem cf_chk3 : cf_chk 3 = true := by decide +kernel
theorem cf_chk4 : cf_chk 4 = true := by decide +kernel
theorem cf_chk5 : cf_chk 5 = true := by decide +kernel
theorem cf_chk6 : cf_chk 6 = true := by decide +kernel
theorem cf_chk7 : cf_chk 7 = true := by decide +kernel
theorem cf_chk8 : cf_chk 8 = true := by decide +kernel
theorem cf_chk9 : cf_chk 9 = true := by decide +kernel
theorem cf_chk10 : cf_chk 10 = true := by decide +kernel
theorem cf_chk11 : cf_chk 11 = true := by decide +kernel
theorem cf_chk12 : cf_chk 12 = true := by decide +kernel
theorem cf_chk13 : cf_chk 13 = true := by decide +kernel
theorem cf_chk14 : cf_chk 14 = true := by decide +kernel
theorem cf_chk15 : cf_chk 15 = true := by decide +kernel
theorem cf_bN_e {m : Nat} (h : m < 16384) : cf_bN m = cf_pn 14 m := by
  have hk : ∀ k, k < 16 → cf_chk k = true := by
    intro k hk
    match k, hk with
    | 0, _ => exact cf_chk0
    | 1, _ => exact cf_chk1
    | 2, _ => exact cf_chk2
    | 3, _ => exact cf_chk3
    | 4, _ => exact cf_chk4
    | 5, _ => exact cf_chk5
    | 6, _ => exact cf_chk6
    | 7, _ => exact cf_chk7
    | 8, _ => exact cf_chk8
    | 9, _ => exact cf_chk9
    | 10, _ => exact cf_chk10
    | 11, _ => exact cf_chk11
    | 12, _ => exact cf_chk12
    | 13, _ => exact cf_chk13
    | 14, _ => exact cf_chk14
    | 15, _ => exact cf_chk15
    | n + 16, hk => exact absurd hk (by omega)
  have h1 := cf_all_i 64 (cf_all_i 16 (hk (m / 1024) (by omega)) (m % 1024 / 64) (by omega)) (m % 64) (by omega)
  have h2 := Nat.eq_of_beq_eq_true h1
  have e : Nat.add (Nat.mul 64 (Nat.add (Nat.mul 16 (m / 1024)) (m % 1024 / 64))) (m % 64) = m := by
    show 64 * (16 * (m / 1024) + m % 1024 / 64) + m % 64 = m
    omega
  rw [e] at h2
  exact h2
theorem cf_us_n {m : Nat} (h : m < 2 ^ 31) (s : Int32) (k : Nat) (hs : ((s.toUInt32 &&& Int32.toUInt32 31).toBitVec % 32).toNat = k) : cf_us (nI m) s = nI (m / 2 ^ k) := pk_ushrN (by omega) s k hs
theorem cf_nsub {a b : Nat} (h : b ≤ a) : nI a - nI b = nI (a - b) := by
  have e : nI a = nI (a - b) + nI b := by rw [nI_add]; congr 1; omega
  rw [e]
  exact Int32.add_sub_cancel _ _
theorem cf_nand (a b : Nat) : nI a &&& nI b = nI (a &&& b) := by
  apply Int32.toBitVec_inj.mp
  rw [Int32.toBitVec_and]
  show BitVec.ofNat 32 a &&& BitVec.ofNat 32 b = BitVec.ofNat 32 (a &&& b)
  apply BitVec.eq_of_toNat_eq
  simp [BitVec.toNat_and, BitVec.toNat_ofNat, Nat.and_mod_two_pow]
theorem cf_bc_n {m : Nat} (h : m < 16384) : cf_bc (nI m) = nI (cf_bN m) := by
  have l1 : (1431655765 : Int32) = nI 1431655765 := by decide +kernel
  have l2 : (858993459 : Int32) = nI 858993459 := by decide +kernel
  have l3 : (252645135 : Int32) = nI 252645135 := by decide +kernel
  have l6 : (63 : Int32) = nI 63 := by decide +kernel
  have e1 : cf_bc1 (nI m) = nI (cf_b1 m) := by
    unfold cf_bc1
    rw [cf_us_n (by omega) 1 1 (by decide +kernel), l1, cf_nand, cf_nsub (Nat.le_trans Nat.and_le_left (Nat.div_le_self _ _))]
    rfl
  have b1 : cf_b1 m < 16384 := Nat.lt_of_le_of_lt (Nat.sub_le _ _) h
  have e2 : cf_bc2 (nI (cf_b1 m)) = nI (cf_b2 (cf_b1 m)) := by
    unfold cf_bc2
    rw [cf_us_n (by omega) 2 2 (by decide +kernel), l2, cf_nand, cf_nand, nI_add]
    rfl
  have b2 : cf_b2 (cf_b1 m) < 32768 := by
    have g1 : Nat.land (cf_b1 m) 858993459 ≤ cf_b1 m := Nat.and_le_left
    have g2 : Nat.land (Nat.div (cf_b1 m) 4) 858993459 ≤ Nat.div (cf_b1 m) 4 := Nat.and_le_left
    have g3 : Nat.div (cf_b1 m) 4 ≤ cf_b1 m := Nat.div_le_self _ _
    show Nat.land (cf_b1 m) 858993459 + Nat.land (Nat.div (cf_b1 m) 4) 858993459 < 32768
    omega
  have e3 : cf_bc3 (nI (cf_b2 (cf_b1 m))) = nI (cf_b3 (cf_b2 (cf_b1 m))) := by
    unfold cf_bc3
    rw [cf_us_n (by omega) 4 4 (by decide +kernel), l3, nI_add, cf_nand]
    rfl
  have b3 : cf_b3 (cf_b2 (cf_b1 m)) < 65536 := by
    have g1 : cf_b3 (cf_b2 (cf_b1 m)) ≤ Nat.add (cf_b2 (cf_b1 m)) (Nat.div (cf_b2 (cf_b1 m)) 16) := Nat.and_le_left
    have g3 : Nat.div (cf_b2 (cf_b1 m)) 16 ≤ cf_b2 (cf_b1 m) := Nat.div_le_self _ _
    have g4 : Nat.add (cf_b2 (cf_b1 m)) (Nat.div (cf_b2 (cf_b1 m)) 16) = cf_b2 (cf_b1 m) + Nat.div (cf_b2 (cf_b1 m)) 16 := rfl
    omega
  have e4 : cf_bc4 (nI (cf_b3 (cf_b2 (cf_b1 m)))) = nI (cf_b4 (cf_b3 (cf_b2 (cf_b1 m)))) := by
    unfold cf_bc4
    rw [cf_us_n (by omega) 8 8 (by decide +kernel), nI_add]
    rfl
  have b4 : cf_b4 (cf_b3 (cf_b2 (cf_b1 m))) < 131072 := by
    have g3 : Nat.div (cf_b3 (cf_b2 (cf_b1 m))) 256 ≤ cf_b3 (cf_b2 (cf_b1 m)) := Nat.div_le_self _ _
    have g4 : cf_b4 (cf_b3 (cf_b2 (cf_b1 m))) = cf_b3 (cf_b2 (cf_b1 m)) + Nat.div (cf_b3 (cf_b2 (cf_b1 m))) 256 := rfl
    omega
  have e5 : cf_bc5 (nI (cf_b4 (cf_b3 (cf_b2 (cf_b1 m))))) = nI (cf_b5 (cf_b4 (cf_b3 (cf_b2 (cf_b1 m))))) := by
    unfold cf_bc5
    rw [cf_us_n (by omega) 16 16 (by decide +kernel), nI_add]
    rfl
  unfold cf_bc
  rw [e1, e2, e3, e4, e5, l6, cf_nand]
  rfl
theorem cf_bc_e {x : Int32} (h : cf_m14 x) : cf_bc x = nI (cf_pw x) := by
  have hx : x.toBitVec.toNat < 16384 := h
  rw [cf_of x, cf_bc_n hx, cf_bN_e hx]
  unfold cf_pw
  rw [← cf_of x]
  rfl
theorem cf_kern_e {m : Nat} (h : m < 16384) (h0 : m ≠ 0) : cf_pop (m &&& (m - 1)) + 1 = cf_pop m := cf_pn_kern 14 m h0 h
/-! the reference: bits -/
theorem lp_P_bits {w : cf_Wd} {s : Int32} {T0 : Nat} : ∀ d n r, r < 16384 → cf_pop r = d → n + d = T0 → cf_wp T_P_bits (4, [some (.inl s), some (.inl (nI n)), some (.inl (nI r))], [], w) (cf_qi (fun x w1 => x = nI T0 ∧ w1 = w)) := by
  intro d
  induction d with
  | zero =>
    intro n r hr hp hn
    have e : r = 0 := by
      by_cases h0 : r = 0
      · exact h0
      · have := cf_kern_e hr h0
        omega
    subst e
    have e2 : n = T0 := by omega
    subst e2
    refine r_P_bits_4.mpr ?_
    simp only [r_P_bits_0, r_P_bits_1, r_P_bits_2, r_P_bits_3, r_P_bits_5, r_P_bits_8, r_P_bits_9, r_P_bits_10, r_P_bits_11, r_P_bits_12, r_P_bits_13, r_P_bits_14, r_P_bits_15, r_P_bits_16, r_P_bits_17, r_P_bits_18, r_P_bits_21, r_P_bits_22, nI_0, ↓reduceIte, and_self]
  | succ d ih =>
    intro n r hr hp hn
    have h0 : r ≠ 0 := by
      intro e
      subst e
      have : cf_pop 0 = 0 := by decide
      omega
    have hk := cf_kern_e hr h0
    have hne : (nI r = 0) = False := eq_false (fun e => h0 ((cf_ne0 (by omega)).mp e))
    have hpred : nI r - 1 = nI (r - 1) := by
      obtain ⟨m, rfl⟩ : ∃ m, r = m + 1 := ⟨r - 1, by omega⟩
      exact nI_pred m
    refine r_P_bits_4.mpr ?_
    simp only [r_P_bits_0, r_P_bits_1, r_P_bits_2, r_P_bits_3, r_P_bits_5, r_P_bits_8, r_P_bits_9, r_P_bits_10, r_P_bits_11, r_P_bits_12, r_P_bits_13, r_P_bits_14, r_P_bits_15, r_P_bits_16, r_P_bits_17, r_P_bits_18, r_P_bits_21, r_P_bits_22, hne, ↓reduceIte, nI_1, hpred, cf_nand]
    exact ih (n + 1) (r &&& (r - 1)) (Nat.lt_of_le_of_lt Nat.and_le_left hr) (by omega) (by omega)
theorem sp_P_bits {x : Int32} (h : cf_m14 x) {w : cf_Wd} : F_P_bits [.inl x] w = some (some (.inl (nI (cf_pw x))), w) := by
  refine cf_is (e_P_bits ?_)
  simp only [r_P_bits_0, r_P_bits_1, r_P_bits_2, r_P_bits_3]
  have k := lp_P_bits (w := w) (s := x) (T0 := cf_pw x) (cf_pw x) 0 x.toBitVec.toNat h rfl (by omega)
  rw [← cf_of x, nI_0] at k
  exact k
/-! the reference: what the journal knows of a test -/
def cf_kn (ts vs : Nat → Int32) (t : Int32) : Nat → Int32
  | 0 => 0
  | k + 1 => if ts k = t then vs k else cf_kn ts vs t k
theorem lp_P_known {w : cf_Wd} {t : Int32} {m : Nat} (hm : m ≤ 600) : ∀ d k, k + d = m → cf_wp T_P_known (5, [some (.inr 15), some (.inl t), some (.inl (nI m)), some (.inl (cf_kn (w 20) (w 21) t k)), some (.inl (nI k))], [], w) (cf_qi (fun x w1 => x = cf_kn (w 20) (w 21) t m ∧ w1 = w)) := by
  intro d
  induction d with
  | zero =>
    intro k hk
    have e : k = m := by omega
    subst e
    have hc : (nI k ≤ nI k) = True := eq_true (nI_le (Nat.le_refl k) (by omega))
    refine r_P_known_5.mpr ?_
    simp only [r_P_known_0, r_P_known_1, r_P_known_2, r_P_known_3, r_P_known_7, r_P_known_8, r_P_known_11, r_P_known_12, r_P_known_15, r_P_known_17, r_P_known_18, r_P_known_19, r_P_known_22, r_P_known_23, r_P_known_26, r_P_known_28, r_P_known_29, r_P_known_32, r_P_known_33, r_P_known_34, r_P_known_37, r_P_known_40, r_P_known_41, hc, ↓reduceIte, and_self]
  | succ d ih =>
    intro k hk
    have hc : (nI m ≤ nI k) = False := eq_false (nI_ge (by omega) (by omega))
    have ih1 := ih (k + 1) (by omega)
    refine r_P_known_5.mpr ?_
    simp only [r_P_known_0, r_P_known_1, r_P_known_2, r_P_known_3, r_P_known_7, r_P_known_8, r_P_known_11, r_P_known_12, r_P_known_15, r_P_known_17, r_P_known_18, r_P_known_19, r_P_known_22, r_P_known_23, r_P_known_26, r_P_known_28, r_P_known_29, r_P_known_32, r_P_known_33, r_P_known_34, r_P_known_37, r_P_known_40, r_P_known_41, hc, ↓reduceIte, nI_1, cf_in_nI (show k < 600 by omega) (by decide), true_and, nI_clamp (show k < 2 ^ 31 by omega)]
    by_cases h : w 20 k = t
    · rw [show cf_kn (w 20) (w 21) t (k + 1) = w 21 k from if_pos h] at ih1
      simp only [h, not_true_eq_false, ↓reduceIte]
      exact ih1
    · rw [show cf_kn (w 20) (w 21) t (k + 1) = cf_kn (w 20) (w 21) t k from if_neg h] at ih1
      simp only [h, not_false_eq_true, ↓reduceIte]
      exact ih1
theorem sp_P_known {w : cf_Wd} {t : Int32} {m : Nat} (hm : m ≤ 600) : F_P_known [.inr 15, .inl t, .inl (nI m)] w = some (some (.inl (cf_kn (w 20) (w 21) t m)), w) := by
  refine cf_is (e_P_known ?_)
  simp only [r_P_known_0, r_P_known_1, r_P_known_2, r_P_known_3]
  have h := lp_P_known (w := w) (t := t) hm m 0 (by omega)
  rw [nI_0] at h
  exact h
theorem sp_P_ask {w : cf_Wd} {f : Nat → Int32} {t : Int32} {m : Nat} (hm : m ≤ 600) (hf : f 11 = nI m) : F_P_ask [.inr 15, .inl t] (cf_wa w 15 f) = some (some (.inl (cf_kn (w 20) (w 21) t m)), cf_wa w 15 (upd f 19 (if cf_kn (w 20) (w 21) t m = 0 then t else f 19))) := by
  refine cf_is (e_P_ask ?_)
  simp only [r_P_ask_0, r_P_ask_1, r_P_ask_2, r_P_ask_3, c_P_ask_6 (sp_P_known hm), r_P_ask_9, r_P_ask_10, r_P_ask_11, r_P_ask_12, r_P_ask_15, r_P_ask_16, r_P_ask_19, r_P_ask_20, r_P_ask_23, r_P_ask_26, r_P_ask_27, cf_wa_s, cf_wa_n, pk_us, pk_un, ne_eq, Nat.reduceEqDiff, not_false_eq_true, reduceCtorEq, hf, cf_wa_wa]
  by_cases h : cf_kn (w 20) (w 21) t m = 0
  · simp only [h, not_true_eq_false, ↓reduceIte, and_self]
  · simp only [h, not_false_eq_true, ↓reduceIte, and_self]
