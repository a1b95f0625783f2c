/-! counting bits -/
def cf_pop (m : Nat) : Nat := [0, 1, 2, 3, 4, 5, 6, 7, 8, 9, 10, 11, 12, 13].countP (fun i => m.testBit i)
def cf_pw (x : Int32) : Nat := cf_pop x.toBitVec.toNat
def cf_m14 (x : Int32) : Prop := x.toBitVec.toNat < 16384
theorem cf_tn {m : Nat} (h : m < 2 ^ 32) : (nI m).toBitVec.toNat = m := by
  show (BitVec.ofNat 32 m).toNat = m
  rw [BitVec.toNat_ofNat, Nat.mod_eq_of_lt h]
theorem cf_of (x : Int32) : x = nI x.toBitVec.toNat := Int32.toBitVec_inj.mp (by show _ = BitVec.ofNat 32 _; simp)
theorem cf_m14_n {m : Nat} (h : m < 16384) : cf_m14 (nI m) := by
  unfold cf_m14
  rw [cf_tn (by omega)]
  exact h
theorem cf_m14_and {x y : Int32} (h : cf_m14 x) : cf_m14 (x &&& y) := by
  unfold cf_m14 at *
  rw [Int32.toBitVec_and, BitVec.toNat_and]
  exact Nat.lt_of_le_of_lt Nat.and_le_left h
theorem cf_pw_e (x : Int32) : cf_pw x = [0, 1, 2, 3, 4, 5, 6, 7, 8, 9, 10, 11, 12, 13].countP (fun i => bt x i) := rfl
theorem cf_pw_le {x y : Int32} (h : ∀ i, i < 14 → bt x i = true → bt y i = true) : cf_pw x ≤ cf_pw y := by
  rw [cf_pw_e, cf_pw_e]
  refine List.countP_mono_left (fun i hi hx => h i ?_ hx)
  simp at hi
  omega
theorem cf_pw_and (x y : Int32) : cf_pw (x &&& y) ≤ cf_pw y := cf_pw_le (fun i _ h => by
  rw [b_and, Bool.and_eq_true] at h
  exact h.2)
theorem cf_pw_14 (x : Int32) : cf_pw x ≤ 14 := by
  rw [cf_pw_e]
  exact List.countP_le_length
set_option maxRecDepth 100000 in
theorem cf_kern : ∀ a, a < 128 → ∀ b, b < 128 → (128 * a + b = 0 ∨ cf_pop ((128 * a + b) &&& (128 * a + b - 1)) + 1 = cf_pop (128 * a + b)) := by decide +kernel
set_option maxRecDepth 100000 in
theorem cf_bck : ∀ a, a < 128 → ∀ b, b < 128 → cf_bc (nI (128 * a + b)) = nI (cf_pop (128 * a + b)) := by decide +kernel
theorem cf_bc_e {x : Int32} (h : cf_m14 x) : cf_bc x = nI (cf_pw x) := by
  have hx : x.toBitVec.toNat < 16384 := h
  have e := cf_bck (x.toBitVec.toNat / 128) (by omega) (x.toBitVec.toNat % 128) (by omega)
  have e2 : 128 * (x.toBitVec.toNat / 128) + x.toBitVec.toNat % 128 = x.toBitVec.toNat := by omega
  rw [e2, ← cf_of x] at e
  exact e
theorem cf_kern_e {m : Nat} (h : m < 16384) (h0 : m ≠ 0) : cf_pop (m &&& (m - 1)) + 1 = cf_pop m := by
  have e := cf_kern (m / 128) (by omega) (m % 128) (by omega)
  have e2 : 128 * (m / 128) + m % 128 = m := by omega
  rw [e2] at e
  rcases e with e | e
  · exact absurd e h0
  · exact e
theorem cf_nand (a b : Nat) : nI a &&& nI b = nI (a &&& b) := by
  apply Int32.toBitVec_inj.mp
  rw [Int32.toBitVec_and]
  show BitVec.ofNat 32 a &&& BitVec.ofNat 32 b = BitVec.ofNat 32 (a &&& b)
  apply BitVec.eq_of_toNat_eq
  simp [BitVec.toNat_and, BitVec.toNat_ofNat, Nat.and_mod_two_pow]
/-! the reference: bits -/
theorem lp_P_bits {w : cf_Wd} {s : Int32} {T0 : Nat} : ∀ d n r, r < 16384 → cf_pop r = d → n + d = T0 → cf_wp T_P_bits (4, [some (.inl s), some (.inl (nI n)), some (.inl (nI r))], [], w) (cf_qi (fun x w1 => x = nI T0 ∧ w1 = w)) := by
  intro d
  induction d with
  | zero =>
    intro n r hr hp hn
    have e : r = 0 := by
      by_cases h0 : r = 0
      · exact h0
      · have := cf_kern_e hr h0
        omega
    subst e
    have e2 : n = T0 := by omega
    subst e2
    refine r_P_bits_4.mpr ?_
    simp only [r_P_bits_0, r_P_bits_1, r_P_bits_2, r_P_bits_3, r_P_bits_5, r_P_bits_8, r_P_bits_9, r_P_bits_10, r_P_bits_11, r_P_bits_12, r_P_bits_13, r_P_bits_14, r_P_bits_15, r_P_bits_16, r_P_bits_17, r_P_bits_18, r_P_bits_21, r_P_bits_22, nI_0, ↓reduceIte, and_self]
  | succ d ih =>
    intro n r hr hp hn
    have h0 : r ≠ 0 := by
      intro e
      subst e
      have : cf_pop 0 = 0 := by decide
      omega
    have hk := cf_kern_e hr h0
    have hne : (nI r = 0) = False := eq_false (fun e => h0 ((cf_ne0 (by omega)).mp e))
    have hpred : nI r - 1 = nI (r - 1) := by
      obtain ⟨m, rfl⟩ : ∃ m, r = m + 1 := ⟨r - 1, by omega⟩
      exact nI_pred m
    refine r_P_bits_4.mpr ?_
    simp only [r_P_bits_0, r_P_bits_1, r_P_bits_2, r_P_bits_3, r_P_bits_5, r_P_bits_8, r_P_bits_9, r_P_bits_10, r_P_bits_11, r_P_bits_12, r_P_bits_13, r_P_bits_14, r_P_bits_15, r_P_bits_16, r_P_bits_17, r_P_bits_18, r_P_bits_21, r_P_bits_22, hne, ↓reduceIte, nI_1, hpred, cf_nand]
    exact ih (n + 1) (r &&& (r - 1)) (Nat.lt_of_le_of_lt Nat.and_le_left hr) (by omega) (by omega)
theorem sp_P_bits {x : Int32} (h : cf_m14 x) {w : cf_Wd} : F_P_bits [.inl x] w = some (some (.inl (nI (cf_pw x))), w) := by
  refine cf_is (e_P_bits ?_)
  simp only [r_P_bits_0, r_P_bits_1, r_P_bits_2, r_P_bits_3]
  have k := lp_P_bits (w := w) (s := x) (T0 := cf_pw x) (cf_pw x) 0 x.toBitVec.toNat h rfl (by omega)
  rw [← cf_of x, nI_0] at k
  exact k
/-! the reference: what the journal knows of a test -/
def cf_kn (ts vs : Nat → Int32) (t : Int32) : Nat → Int32
  | 0 => 0
  | k + 1 => if ts k = t then vs k else cf_kn ts vs t k
theorem lp_P_known {w : cf_Wd} {t : Int32} {m : Nat} (hm : m ≤ 600) : ∀ d k, k + d = m → cf_wp T_P_known (5, [some (.inr 15), some (.inl t), some (.inl (nI m)), some (.inl (cf_kn (w 20) (w 21) t k)), some (.inl (nI k))], [], w) (cf_qi (fun x w1 => x = cf_kn (w 20) (w 21) t m ∧ w1 = w)) := by
  intro d
  induction d with
  | zero =>
    intro k hk
    have e : k = m := by omega
    subst e
    have hc : (nI k ≤ nI k) = True := eq_true (nI_le (Nat.le_refl k) (by omega))
    refine r_P_known_5.mpr ?_
    simp only [r_P_known_0, r_P_known_1, r_P_known_2, r_P_known_3, r_P_known_7, r_P_known_8, r_P_known_11, r_P_known_12, r_P_known_15, r_P_known_17, r_P_known_18, r_P_known_19, r_P_known_22, r_P_known_23, r_P_known_26, r_P_known_28, r_P_known_29, r_P_known_32, r_P_known_33, r_P_known_34, r_P_known_37, r_P_known_40, r_P_known_41, hc, ↓reduceIte, and_self]
  | succ d ih =>
    intro k hk
    have hc : (nI m ≤ nI k) = False := eq_false (nI_ge (by omega) (by omega))
    have ih1 := ih (k + 1) (by omega)
    refine r_P_known_5.mpr ?_
    simp only [r_P_known_0, r_P_known_1, r_P_known_2, r_P_known_3, r_P_known_7, r_P_known_8, r_P_known_11, r_P_known_12, r_P_known_15, r_P_known_17, r_P_known_18, r_P_known_19, r_P_known_22, r_P_known_23, r_P_known_26, r_P_known_28, r_P_known_29, r_P_known_32, r_P_known_33, r_P_known_34, r_P_known_37, r_P_known_40, r_P_known_41, hc, ↓reduceIte, nI_1, cf_in_nI (show k < 600 by omega) (by decide), true_and, nI_clamp (show k < 2 ^ 31 by omega)]
    by_cases h : w 20 k = t
    · rw [show cf_kn (w 20) (w 21) t (k + 1) = w 21 k from if_pos h] at ih1
      simp only [h, not_true_eq_false, ↓reduceIte]
      exact ih1
    · rw [show cf_kn (w 20) (w 21) t (k + 1) = cf_kn (w 20) (w 21) t k from if_neg h] at ih1
      simp only [h, not_false_eq_true, ↓reduceIte]
      exact ih1
theorem sp_P_known {w : cf_Wd} {t : Int32} {m : Nat} (hm : m ≤ 600) : F_P_known [.inr 15, .inl t, .inl (nI m)] w = some (some (.inl (cf_kn (w 20) (w 21) t m)), w) := by
  refine cf_is (e_P_known ?_)
  simp only [r_P_known_0, r_P_known_1, r_P_known_2, r_P_known_3]
  have h := lp_P_known (w := w) (t := t) hm m 0 (by omega)
  rw [nI_0] at h
  exact h
theorem sp_P_ask {w : cf_Wd} {f : Nat → Int32} {t : Int32} {m : Nat} (hm : m ≤ 600) (hf : f 11 = nI m) : F_P_ask [.inr 15, .inl t] (cf_wa w 15 f) = some (some (.inl (cf_kn (w 20) (w 21) t m)), cf_wa w 15 (upd f 19 (if cf_kn (w 20) (w 21) t m = 0 then t else f 19))) := by
  refine cf_is (e_P_ask ?_)
  simp only [r_P_ask_0, r_P_ask_1, r_P_ask_2, r_P_ask_3, c_P_ask_6 (sp_P_known hm), r_P_ask_9, r_P_ask_10, r_P_ask_11, r_P_ask_12, r_P_ask_15, r_P_ask_16, r_P_ask_19, r_P_ask_20, r_P_ask_23, r_P_ask_26, r_P_ask_27, cf_wa_s, cf_wa_n, pk_us, pk_un, ne_eq, Nat.reduceEqDiff, not_false_eq_true, reduceCtorEq, hf, cf_wa_wa]
  by_cases h : cf_kn (w 20) (w 21) t m = 0
  · simp only [h, not_true_eq_false, ↓reduceIte, and_self]
  · simp only [h, not_false_eq_true, ↓reduceIte, and_self]
