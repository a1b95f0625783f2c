/-! numbers, worlds, bits -/
theorem cf_wa_wa {w : cf_Wd} {k : Nat} {f g : Nat → Int32} : cf_wa (cf_wa w k f) k g = cf_wa w k g := by
  funext j
  unfold cf_wa
  by_cases h : j = k <;> simp [h]
theorem cf_wa_id {w : cf_Wd} {k : Nat} {f : Nat → Int32} (h : f = w k) : cf_wa w k f = w := by
  funext j
  unfold cf_wa
  by_cases e : j = k
  · rw [if_pos e, h, e]
  · rw [if_neg e]
theorem cf_uu {f : Nat → Int32} {k : Nat} {x y : Int32} : upd (upd f k x) k y = upd f k y := by
  funext j
  unfold upd
  by_cases h : j = k <;> simp [h]
theorem cf_8 (n k : Nat) : nI n * 8 + nI k = nI (8 * n + k) := by
  have e : (8 : Int32) = nI 8 := by decide +kernel
  rw [e, Nat.mul_comm 8 n]
  unfold nI
  rw [Int32.ofNat_add, Int32.ofNat_mul]
theorem cf_8' (n : Nat) : nI n * 8 = nI (8 * n) := by
  have e : (8 : Int32) = nI 8 := by decide +kernel
  rw [e, Nat.mul_comm 8 n]
  unfold nI
  rw [Int32.ofNat_mul]
theorem cf_8c (n k : Nat) : 8 * nI n + nI k = nI (8 * n + k) := by
  have e : (8 : Int32) = nI 8 := by decide +kernel
  rw [e]
  unfold nI
  rw [Int32.ofNat_add, Int32.ofNat_mul]
theorem cf_ge8 {k : Nat} (h : k < 8) : ((8 : Int32) ≤ nI k) = False := by
  have e : (8 : Int32) = nI 8 := by decide +kernel
  rw [e]
  exact eq_false (nI_ge h (by decide))
theorem cf_ge88 : ((8 : Int32) ≤ nI 8) = True := by decide +kernel
def cf_bit (m c : Int32) : Bool := !decide (m >>> (c &&& 31) &&& 1 = 0)
theorem cf_bit_t {m c : Int32} (h : ¬ m >>> (c &&& 31) &&& 1 = 0) : cf_bit m c = true := by simp [cf_bit, h]
theorem cf_bit_f {m c : Int32} (h : m >>> (c &&& 31) &&& 1 = 0) : cf_bit m c = false := by simp [cf_bit, h]
theorem cf_q_0_1 : ((0 : Int32) = 1) = False := eq_false (by decide)
theorem cf_q_0_2 : ((0 : Int32) = 2) = False := eq_false (by decide)
theorem cf_q_0_3 : ((0 : Int32) = 3) = False := eq_false (by decide)
theorem cf_q_0_4 : ((0 : Int32) = 4) = False := eq_false (by decide)
theorem cf_q_0_5 : ((0 : Int32) = 5) = False := eq_false (by decide)
theorem cf_q_0_6 : ((0 : Int32) = 6) = False := eq_false (by decide)
theorem cf_q_0_7 : ((0 : Int32) = 7) = False := eq_false (by decide)
theorem cf_q_0_8 : ((0 : Int32) = 8) = False := eq_false (by decide)
theorem cf_q_0_9 : ((0 : Int32) = 9) = False := eq_false (by decide)
theorem cf_q_1_0 : ((1 : Int32) = 0) = False := eq_false (by decide)
theorem cf_q_1_2 : ((1 : Int32) = 2) = False := eq_false (by decide)
theorem cf_q_1_3 : ((1 : Int32) = 3) = False := eq_false (by decide)
theorem cf_q_1_4 : ((1 : Int32) = 4) = False := eq_false (by decide)
theorem cf_q_1_5 : ((1 : Int32) = 5) = False := eq_false (by decide)
theorem cf_q_1_6 : ((1 : Int32) = 6) = False := eq_false (by decide)
theorem cf_q_1_7 : ((1 : Int32) = 7) = False := eq_false (by decide)
theorem cf_q_1_8 : ((1 : Int32) = 8) = False := eq_false (by decide)
theorem cf_q_1_9 : ((1 : Int32) = 9) = False := eq_false (by decide)
theorem cf_q_2_0 : ((2 : Int32) = 0) = False := eq_false (by decide)
theorem cf_q_2_1 : ((2 : Int32) = 1) = False := eq_false (by decide)
theorem cf_q_2_3 : ((2 : Int32) = 3) = False := eq_false (by decide)
theorem cf_q_2_4 : ((2 : Int32) = 4) = False := eq_false (by decide)
theorem cf_q_2_5 : ((2 : Int32) = 5) = False := eq_false (by decide)
theorem cf_q_2_6 : ((2 : Int32) = 6) = False := eq_false (by decide)
theorem cf_q_2_7 : ((2 : Int32) = 7) = False := eq_false (by decide)
theorem cf_q_2_8 : ((2 : Int32) = 8) = False := eq_false (by decide)
theorem cf_q_2_9 : ((2 : Int32) = 9) = False := eq_false (by decide)
theorem cf_q_3_0 : ((3 : Int32) = 0) = False := eq_false (by decide)
theorem cf_q_3_1 : ((3 : Int32) = 1) = False := eq_false (by decide)
theorem cf_q_3_2 : ((3 : Int32) = 2) = False := eq_false (by decide)
theorem cf_q_3_4 : ((3 : Int32) = 4) = False := eq_false (by decide)
theorem cf_q_3_5 : ((3 : Int32) = 5) = False := eq_false (by decide)
theorem cf_q_3_6 : ((3 : Int32) = 6) = False := eq_false (by decide)
theorem cf_q_3_7 : ((3 : Int32) = 7) = False := eq_false (by decide)
theorem cf_q_3_8 : ((3 : Int32) = 8) = False := eq_false (by decide)
theorem cf_q_3_9 : ((3 : Int32) = 9) = False := eq_false (by decide)
theorem cf_q_4_0 : ((4 : Int32) = 0) = False := eq_false (by decide)
theorem cf_q_4_1 : ((4 : Int32) = 1) = False := eq_false (by decide)
theorem cf_q_4_2 : ((4 : Int32) = 2) = False := eq_false (by decide)
theorem cf_q_4_3 : ((4 : Int32) = 3) = False := eq_false (by decide)
theorem cf_q_4_5 : ((4 : Int32) = 5) = False := eq_false (by decide)
theorem cf_q_4_6 : ((4 : Int32) = 6) = False := eq_false (by decide)
theorem cf_q_4_7 : ((4 : Int32) = 7) = False := eq_false (by decide)
theorem cf_q_4_8 : ((4 : Int32) = 8) = False := eq_false (by decide)
theorem cf_q_4_9 : ((4 : Int32) = 9) = False := eq_false (by decide)
theorem cf_q_5_0 : ((5 : Int32) = 0) = False := eq_false (by decide)
theorem cf_q_5_1 : ((5 : Int32) = 1) = False := eq_false (by decide)
theorem cf_q_5_2 : ((5 : Int32) = 2) = False := eq_false (by decide)
theorem cf_q_5_3 : ((5 : Int32) = 3) = False := eq_false (by decide)
theorem cf_q_5_4 : ((5 : Int32) = 4) = False := eq_false (by decide)
theorem cf_q_5_6 : ((5 : Int32) = 6) = False := eq_false (by decide)
theorem cf_q_5_7 : ((5 : Int32) = 7) = False := eq_false (by decide)
theorem cf_q_5_8 : ((5 : Int32) = 8) = False := eq_false (by decide)
theorem cf_q_5_9 : ((5 : Int32) = 9) = False := eq_false (by decide)
theorem cf_q_6_0 : ((6 : Int32) = 0) = False := eq_false (by decide)
theorem cf_q_6_1 : ((6 : Int32) = 1) = False := eq_false (by decide)
theorem cf_q_6_2 : ((6 : Int32) = 2) = False := eq_false (by decide)
theorem cf_q_6_3 : ((6 : Int32) = 3) = False := eq_false (by decide)
theorem cf_q_6_4 : ((6 : Int32) = 4) = False := eq_false (by decide)
theorem cf_q_6_5 : ((6 : Int32) = 5) = False := eq_false (by decide)
theorem cf_q_6_7 : ((6 : Int32) = 7) = False := eq_false (by decide)
theorem cf_q_6_8 : ((6 : Int32) = 8) = False := eq_false (by decide)
theorem cf_q_6_9 : ((6 : Int32) = 9) = False := eq_false (by decide)
theorem cf_q_7_0 : ((7 : Int32) = 0) = False := eq_false (by decide)
theorem cf_q_7_1 : ((7 : Int32) = 1) = False := eq_false (by decide)
theorem cf_q_7_2 : ((7 : Int32) = 2) = False := eq_false (by decide)
theorem cf_q_7_3 : ((7 : Int32) = 3) = False := eq_false (by decide)
theorem cf_q_7_4 : ((7 : Int32) = 4) = False := eq_false (by decide)
theorem cf_q_7_5 : ((7 : Int32) = 5) = False := eq_false (by decide)
theorem cf_q_7_6 : ((7 : Int32) = 6) = False := eq_false (by decide)
theorem cf_q_7_8 : ((7 : Int32) = 8) = False := eq_false (by decide)
theorem cf_q_7_9 : ((7 : Int32) = 9) = False := eq_false (by decide)
theorem cf_q_8_0 : ((8 : Int32) = 0) = False := eq_false (by decide)
theorem cf_q_8_1 : ((8 : Int32) = 1) = False := eq_false (by decide)
theorem cf_q_8_2 : ((8 : Int32) = 2) = False := eq_false (by decide)
theorem cf_q_8_3 : ((8 : Int32) = 3) = False := eq_false (by decide)
theorem cf_q_8_4 : ((8 : Int32) = 4) = False := eq_false (by decide)
theorem cf_q_8_5 : ((8 : Int32) = 5) = False := eq_false (by decide)
theorem cf_q_8_6 : ((8 : Int32) = 6) = False := eq_false (by decide)
theorem cf_q_8_7 : ((8 : Int32) = 7) = False := eq_false (by decide)
theorem cf_q_8_9 : ((8 : Int32) = 9) = False := eq_false (by decide)
theorem cf_q_9_0 : ((9 : Int32) = 0) = False := eq_false (by decide)
theorem cf_q_9_1 : ((9 : Int32) = 1) = False := eq_false (by decide)
theorem cf_q_9_2 : ((9 : Int32) = 2) = False := eq_false (by decide)
theorem cf_q_9_3 : ((9 : Int32) = 3) = False := eq_false (by decide)
theorem cf_q_9_4 : ((9 : Int32) = 4) = False := eq_false (by decide)
theorem cf_q_9_5 : ((9 : Int32) = 5) = False := eq_false (by decide)
theorem cf_q_9_6 : ((9 : Int32) = 6) = False := eq_false (by decide)
theorem cf_q_9_7 : ((9 : Int32) = 7) = False := eq_false (by decide)
theorem cf_q_9_8 : ((9 : Int32) = 8) = False := eq_false (by decide)
/-! the JDK's own -/
def cf_us (x s : Int32) : Int32 := (x.toUInt32 >>> (s.toUInt32 &&& Int32.toUInt32 31)).toInt32
def cf_bc1 (i : Int32) : Int32 := i - (cf_us i 1 &&& 1431655765)
def cf_bc2 (i : Int32) : Int32 := (i &&& 858993459) + (cf_us i 2 &&& 858993459)
def cf_bc3 (i : Int32) : Int32 := (i + cf_us i 4) &&& 252645135
def cf_bc4 (i : Int32) : Int32 := i + cf_us i 8
def cf_bc5 (i : Int32) : Int32 := i + cf_us i 16
def cf_bc (i : Int32) : Int32 := cf_bc5 (cf_bc4 (cf_bc3 (cf_bc2 (cf_bc1 i)))) &&& 63
theorem cf_us_e (x s : Int32) : (x.toUInt32 >>> (s.toUInt32 &&& Int32.toUInt32 31)).toInt32 = cf_us x s := rfl
theorem cf_bc1_e (i : Int32) : i - (cf_us i 1 &&& 1431655765) = cf_bc1 i := rfl
theorem cf_bc2_e (i : Int32) : (i &&& 858993459) + (cf_us i 2 &&& 858993459) = cf_bc2 i := rfl
theorem cf_bc3_e (i : Int32) : (i + cf_us i 4) &&& 252645135 = cf_bc3 i := rfl
theorem cf_bc4_e (i : Int32) : i + cf_us i 8 = cf_bc4 i := rfl
theorem cf_bc5_e (i : Int32) : i + cf_us i 16 = cf_bc5 i := rfl
theorem sp_J_bitCount {a : Int32} {w : cf_Wd} : F_J_bitCount [.inl a] w = some (some (.inl (cf_bc a)), w) := by
  refine cf_is (e_J_bitCount ?_)
  simp only [r_J_bitCount_0, r_J_bitCount_1, r_J_bitCount_2, r_J_bitCount_3, r_J_bitCount_4, r_J_bitCount_7, r_J_bitCount_8, r_J_bitCount_9, r_J_bitCount_10, r_J_bitCount_11, r_J_bitCount_14, r_J_bitCount_15, r_J_bitCount_16, r_J_bitCount_17, r_J_bitCount_18, r_J_bitCount_21, r_J_bitCount_22, r_J_bitCount_23, r_J_bitCount_24, r_J_bitCount_25, r_J_bitCount_26, r_J_bitCount_27, r_J_bitCount_28, r_J_bitCount_29, r_J_bitCount_32, r_J_bitCount_33, r_J_bitCount_34, r_J_bitCount_35, r_J_bitCount_36, r_J_bitCount_38, r_J_bitCount_39, r_J_bitCount_40, r_J_bitCount_41, r_J_bitCount_42, r_J_bitCount_43, r_J_bitCount_45, r_J_bitCount_46, r_J_bitCount_47, r_J_bitCount_48, r_J_bitCount_49, r_J_bitCount_51, r_J_bitCount_52, cf_us_e, cf_bc1_e, cf_bc2_e, cf_bc3_e, cf_bc4_e, cf_bc5_e]
  exact ⟨rfl, trivial⟩
def cf_fill (f : Nat → Int32) (v : Int32) (n : Nat) : Nat → Int32 := fun j => if j < n then v else f j
theorem cf_fill_0 {f : Nat → Int32} {v : Int32} : cf_fill f v 0 = f := by
  funext j
  simp [cf_fill]
theorem cf_fill_u {f : Nat → Int32} {v : Int32} {n : Nat} : upd (cf_fill f v n) n v = cf_fill f v (n + 1) := by
  funext j
  unfold upd cf_fill
  by_cases h : j = n
  · simp [h]
  · by_cases h2 : j < n
    · simp [h, h2, Nat.lt_succ_of_lt h2]
    · have h3 : ¬ j < n + 1 := by omega
      simp [h, h2, h3]
theorem lp_J_fill {k N : Nat} (hk : cf_shp k = .inl N) (hN : N < 2 ^ 31) {v : Int32} {w : cf_Wd} : ∀ d j, j + d = N → cf_wp T_J_fill (5, [some (.inr k), some (.inl v), some (.inl (nI j)), some (.inl (nI N))], [], cf_wa w k (cf_fill (w k) v j)) (cf_qv (fun w1 => w1 = cf_wa w k (cf_fill (w k) v N))) := by
  intro d
  induction d with
  | zero =>
    intro j hj
    have e : j = N := by omega
    subst e
    have hc : (nI j ≤ nI j) = True := eq_true (nI_le (Nat.le_refl j) hN)
    simp only [r_J_fill_5, r_J_fill_6, r_J_fill_7, hc, ↓reduceIte, r_J_fill_20]
  | succ d ih =>
    intro j hj
    have hc : (nI N ≤ nI j) = False := eq_false (nI_ge (by omega) hN)
    refine r_J_fill_5.mpr ?_
    simp only [r_J_fill_6, r_J_fill_7, hc, ↓reduceIte, r_J_fill_10, r_J_fill_11, r_J_fill_12, r_J_fill_13 hk, cf_in_nI (show j < N by omega) hN, true_and, r_J_fill_14, r_J_fill_17, nI_clamp (show j < 2 ^ 31 by omega), cf_wa_s, cf_wa_wa, cf_fill_u, nI_1]
    exact ih (j + 1) (by omega)
theorem sp_J_fill {k N : Nat} (hk : cf_shp k = .inl N) (h26 : Nat.blt k 26 = true) (hN : N < 2 ^ 31) {v : Int32} {w : cf_Wd} : F_J_fill [.inr k, .inl v] w = some (none, cf_wa w k (cf_fill (w k) v N)) := by
  refine cf_isv (e_J_fill ?_)
  simp only [r_J_fill_0, r_J_fill_1, r_J_fill_2, r_J_fill_3 hk h26, r_J_fill_4]
  have h := lp_J_fill hk hN (v := v) (w := w) N 0 (by omega)
  rw [cf_fill_0, cf_wa_id rfl] at h
  exact h
/-! History -/
def cf_has (w : cf_Wd) (c : Int32) : Bool := !decide (c < 0) && !decide (w 1 4 ≤ c)
theorem sp_H_has {c : Int32} {w : cf_Wd} : F_H_has [.inr 1, .inl c] w = some (some (.inl (cf_b (cf_has w c))), w) := by
  refine cf_is (e_H_has ?_)
  simp only [r_H_has_0, r_H_has_1, r_H_has_4, r_H_has_5, r_H_has_6, r_H_has_9, r_H_has_12, r_H_has_13, r_H_has_16, r_H_has_17]
  by_cases h1 : c < 0 <;> by_cases h2 : w 1 4 ≤ c <;> simp [h1, h2, cf_has, cf_b]
def cf_hl (w : cf_Wd) (c l : Int32) : Bool := cf_has w c && (!decide (l < 0) && !decide (8 ≤ l))
theorem sp_H_hasLine {c l : Int32} {w : cf_Wd} : F_H_hasLine [.inr 1, .inl c, .inl l] w = some (some (.inl (cf_b (cf_hl w c l))), w) := by
  refine cf_is (e_H_hasLine ?_)
  simp only [r_H_hasLine_0, r_H_hasLine_1, c_H_hasLine_2 sp_H_has, r_H_hasLine_5, r_H_hasLine_8, r_H_hasLine_9, r_H_hasLine_12, r_H_hasLine_13, r_H_hasLine_15, r_H_hasLine_18, r_H_hasLine_19, r_H_hasLine_22, r_H_hasLine_23, cf_b_e0, cf_hl]
  cases h0 : cf_has w c <;> by_cases h1 : l < 0 <;> by_cases h2 : 8 ≤ l <;> simp [h1, h2, cf_b]
theorem sp_H_isParent {c : Int32} {w : cf_Wd} : F_H_isParent [.inr 1, .inl c] w = some (some (.inl (cf_b (cf_bit (w 1 3) c))), w) := by
  refine cf_is (e_H_isParent ?_)
  simp only [r_H_isParent_0, r_H_isParent_1, r_H_isParent_4, r_H_isParent_5, r_H_isParent_6, r_H_isParent_7, r_H_isParent_8, r_H_isParent_11, r_H_isParent_12, r_H_isParent_15, r_H_isParent_16]
  by_cases h1 : w 1 3 >>> (c &&& 31) &&& 1 = 0
  · rw [if_pos h1, cf_bit_f h1]
    simp [cf_b]
  · rw [if_neg h1, cf_bit_t h1]
    simp [cf_b]
theorem sp_H_isOlderAncestor {g c : Int32} {w : cf_Wd} (hN : ∀ c, cf_has w c = true → cf_in c 14 = true) : F_H_isOlderAncestor [.inr 1, .inl g, .inl c] w = some (some (.inl (cf_b (cf_has w g && (cf_has w c && (!decide (g = c) && cf_bit (w 3 c.toNatClampNeg) g))))), w) := by
  refine cf_is (e_H_isOlderAncestor ?_)
  simp only [r_H_isOlderAncestor_0, r_H_isOlderAncestor_1, c_H_isOlderAncestor_2 sp_H_has, r_H_isOlderAncestor_5, r_H_isOlderAncestor_8, r_H_isOlderAncestor_9, c_H_isOlderAncestor_10 sp_H_has, r_H_isOlderAncestor_13, r_H_isOlderAncestor_16, r_H_isOlderAncestor_17, r_H_isOlderAncestor_18, r_H_isOlderAncestor_21, r_H_isOlderAncestor_22, r_H_isOlderAncestor_25, r_H_isOlderAncestor_26, r_H_isOlderAncestor_27, r_H_isOlderAncestor_28, r_H_isOlderAncestor_29, r_H_isOlderAncestor_30, r_H_isOlderAncestor_31, r_H_isOlderAncestor_34, r_H_isOlderAncestor_35, r_H_isOlderAncestor_38, r_H_isOlderAncestor_39, cf_b_e0]
  cases h0 : cf_has w g
  · simp [cf_b]
  · cases h1 : cf_has w c
    · simp [cf_b]
    · by_cases h2 : g = c
      · simp [h2, cf_b]
      · have hin := hN c h1
        by_cases h3 : w 3 c.toNatClampNeg >>> (g &&& 31) &&& 1 = 0
        · rw [cf_bit_f h3]
          simp [h2, h3, hin, cf_b]
        · rw [cf_bit_t h3]
          simp [h2, h3, hin, cf_b]
theorem sp_H_codeAt {n k : Nat} (h : 8 * n + k < 112) {w : cf_Wd} : F_H_codeAt [.inr 1, .inl (nI n), .inl (nI k)] w = some (some (.inl (w 4 (8 * n + k))), w) := by
  refine cf_is (e_H_codeAt ?_)
  simp only [r_H_codeAt_0, r_H_codeAt_1, r_H_codeAt_4, r_H_codeAt_5, r_H_codeAt_7, r_H_codeAt_8, r_H_codeAt_9, r_H_codeAt_10, r_H_codeAt_11, cf_8, cf_in_nI h (by decide), nI_clamp (show 8 * n + k < 2 ^ 31 by omega), and_self]
theorem sp_H_setCode {n k : Nat} (h : 8 * n + k < 112) {v : Int32} {w : cf_Wd} : F_H_setCode [.inr 1, .inl (nI n), .inl (nI k), .inl v] w = some (none, cf_wa w 4 (upd (w 4) (8 * n + k) v)) := by
  refine cf_isv (e_H_setCode ?_)
  simp only [r_H_setCode_0, r_H_setCode_1, r_H_setCode_4, r_H_setCode_5, r_H_setCode_7, r_H_setCode_8, r_H_setCode_9, r_H_setCode_10, r_H_setCode_11, r_H_setCode_12, cf_8, cf_in_nI h (by decide), nI_clamp (show 8 * n + k < 2 ^ 31 by omega), and_self]
def cf_may (w : cf_Wd) (a b : Int32) : Bool := !decide (w 1 4 = 14) && (if a = -1 then decide (b = -1) else cf_has w a && (decide (b = -1) || (cf_has w b && !decide (b = a))))
theorem sp_H_mayAdd {a b : Int32} {w : cf_Wd} : F_H_mayAdd [.inr 1, .inl a, .inl b] w = some (some (.inl (cf_b (cf_may w a b))), w) := by
  refine cf_is (e_H_mayAdd ?_)
  simp only [r_H_mayAdd_0, r_H_mayAdd_1, r_H_mayAdd_4, r_H_mayAdd_6, r_H_mayAdd_9, r_H_mayAdd_10, r_H_mayAdd_11, r_H_mayAdd_12, r_H_mayAdd_13, r_H_mayAdd_16, r_H_mayAdd_17, r_H_mayAdd_18, r_H_mayAdd_21, r_H_mayAdd_22, r_H_mayAdd_25, r_H_mayAdd_26, r_H_mayAdd_27, r_H_mayAdd_28, c_H_mayAdd_29 sp_H_has, r_H_mayAdd_32, r_H_mayAdd_35, r_H_mayAdd_36, r_H_mayAdd_37, r_H_mayAdd_40, r_H_mayAdd_41, c_H_mayAdd_42 sp_H_has, r_H_mayAdd_45, r_H_mayAdd_48, r_H_mayAdd_49, r_H_mayAdd_50, r_H_mayAdd_53, r_H_mayAdd_54, r_H_mayAdd_57, r_H_mayAdd_58, cf_b_e0]
  unfold cf_may
  by_cases h0 : w 1 4 = 14
  · simp [h0, cf_b]
  · by_cases h1 : a = -1
    · by_cases h2 : b = -1 <;> simp [h0, h1, h2, cf_b]
    · cases h3 : cf_has w a
      · simp [h0, h1, cf_b]
      · by_cases h4 : b = -1
        · simp [h0, h1, h4, cf_b]
        · cases h5 : cf_has w b
          · simp [h0, h1, h4, cf_b]
          · by_cases h6 : b = a <;> simp [h0, h1, h4, h6, cf_b]
theorem sp_H_addParent {c p : Nat} (hc : c < 14) (hp : p < 14) {w : cf_Wd} : F_H_addParent [.inr 1, .inl (nI c), .inl (nI p)] w = some (none, cf_wa (cf_wa w 1 (upd (w 1) 3 (w 1 3 ||| 1 <<< (nI p &&& 31)))) 3 (upd (w 3) c (w 3 c ||| w 3 p))) := by
  refine cf_isv (e_H_addParent ?_)
  simp only [r_H_addParent_0, r_H_addParent_1, r_H_addParent_2, r_H_addParent_5, r_H_addParent_6, r_H_addParent_7, r_H_addParent_8, r_H_addParent_9, r_H_addParent_12, r_H_addParent_13, r_H_addParent_16, r_H_addParent_17, r_H_addParent_18, r_H_addParent_19, r_H_addParent_20, r_H_addParent_23, r_H_addParent_24, r_H_addParent_25, r_H_addParent_26, r_H_addParent_27, cf_in_nI hc (by decide), cf_in_nI hp (by decide), nI_clamp (show c < 2 ^ 31 by omega), nI_clamp (show p < 2 ^ 31 by omega), true_and, cf_wa_s, cf_wa_n, pk_us, pk_un, ne_eq, Nat.reduceEqDiff, not_false_eq_true, reduceCtorEq]
def cf_orp (m a : Int32) : Int32 := if a = -1 then m else m ||| 1 <<< (a &&& 31)
def cf_ora (A : Nat → Int32) (x a : Int32) : Int32 := if a = -1 then x else x ||| A a.toNatClampNeg
theorem cf_m1 {p : Nat} (h : p < 2 ^ 31) : (nI p = -1) = False := by
  refine eq_false (fun e => ?_)
  have h1 := nI_toInt h
  rw [e] at h1
  have h2 : (-1 : Int32).toInt = -1 := by decide +kernel
  omega
theorem sp_H_add {N : Nat} (hN : N < 14) {a b : Int32} {w : cf_Wd} (hw : w 1 4 = nI N) (ha : a = -1 ∨ ∃ p, p < N ∧ a = nI p) (hb : b = -1 ∨ ∃ p, p < N ∧ b = nI p) : ∃ x w1, F_H_add [.inr 1, .inl a, .inl b] w = some (some (.inl x), w1) ∧ (x = nI N ∧ (∀ k, 5 ≤ k → w1 k = w k) ∧ w1 1 4 = nI (N + 1) ∧ w1 1 3 = cf_orp (cf_orp (w 1 3) a) b ∧ w1 2 = upd (w 2) N a ∧ w1 3 = upd (w 3) N (cf_ora (w 3) (cf_ora (w 3) (1 <<< (nI N &&& 31)) a) b) ∧ w1 4 = if a = -1 then w 4 else va_cpy (w 4) (w 4) (8 * a.toNatClampNeg) (8 * N) 8) := by
  have e8 : (8 : Int32) = nI 8 := by decide +kernel
  have hbd : ∀ k, 5 ≤ k → k ≠ 1 ∧ k ≠ 2 ∧ k ≠ 3 ∧ k ≠ 4 := fun k hk => ⟨by omega, by omega, by omega, by omega⟩
  rcases ha with rfl | ⟨p, hp, rfl⟩
  · rcases hb with rfl | ⟨q, hq, rfl⟩
    · refine e_H_add ?_
      simp only [r_H_add_0, r_H_add_1, r_H_add_4, r_H_add_5, r_H_add_6, r_H_add_7, r_H_add_10, r_H_add_11, r_H_add_12, r_H_add_15, r_H_add_16, r_H_add_19, r_H_add_20, r_H_add_21, r_H_add_22, r_H_add_23, r_H_add_26, r_H_add_27, r_H_add_28, r_H_add_29, r_H_add_30, r_H_add_31, r_H_add_32, r_H_add_33, r_H_add_36, r_H_add_37, r_H_add_40, r_H_add_41, r_H_add_43, r_H_add_44, r_H_add_45, r_H_add_48, r_H_add_49, r_H_add_51, r_H_add_52, r_H_add_54, r_H_add_57, r_H_add_58, r_H_add_59, r_H_add_60, r_H_add_63, r_H_add_64, r_H_add_65, r_H_add_68, r_H_add_69, r_H_add_70, r_H_add_71, r_H_add_74, r_H_add_75, hw, cf_in_nI hN (by decide), nI_clamp (show N < 2 ^ 31 by omega), true_and, cf_wa_s, cf_wa_n, pk_us, pk_un, ne_eq, Nat.reduceEqDiff, not_false_eq_true, reduceCtorEq, ↓reduceIte, nI_1]
      refine ⟨fun k hk => ?_, ?_⟩
      · obtain ⟨h1, h2, h3, h4⟩ := hbd k hk
        simp [cf_wa, h1, h2, h3]
      · simp [cf_wa, upd, cf_orp, cf_ora]
    · refine e_H_add ?_
      simp only [r_H_add_0, r_H_add_1, r_H_add_4, r_H_add_5, r_H_add_6, r_H_add_7, r_H_add_10, r_H_add_11, r_H_add_12, r_H_add_15, r_H_add_16, r_H_add_19, r_H_add_20, r_H_add_21, r_H_add_22, r_H_add_23, r_H_add_26, r_H_add_27, r_H_add_28, r_H_add_29, r_H_add_30, r_H_add_31, r_H_add_32, r_H_add_33, r_H_add_36, r_H_add_37, r_H_add_40, r_H_add_41, r_H_add_43, r_H_add_44, r_H_add_45, r_H_add_48, r_H_add_49, r_H_add_51, r_H_add_52, r_H_add_54, r_H_add_57, r_H_add_58, r_H_add_59, r_H_add_60, r_H_add_63, r_H_add_64, r_H_add_65, r_H_add_68, r_H_add_69, r_H_add_70, c_H_add_71 (sp_H_addParent hN (show q < 14 by omega)), r_H_add_74, r_H_add_75, hw, cf_in_nI hN (by decide), nI_clamp (show N < 2 ^ 31 by omega), true_and, cf_wa_s, cf_wa_n, pk_us, pk_un, ne_eq, Nat.reduceEqDiff, not_false_eq_true, reduceCtorEq, ↓reduceIte, nI_1, cf_m1 (show q < 2 ^ 31 by omega)]
      refine ⟨fun k hk => ?_, ?_⟩
      · obtain ⟨h1, h2, h3, h4⟩ := hbd k hk
        simp [cf_wa, h1, h2, h3]
      · have hqN : q ≠ N := by omega
        simp [cf_wa, upd, cf_orp, cf_ora, cf_m1 (show q < 2 ^ 31 by omega), nI_clamp (show q < 2 ^ 31 by omega), hqN]
        simp only [cf_uu]
  · have hcp : (decide (0 ≤ (8 : Int32).toInt) && decide (0 ≤ (nI (8 * N)).toInt) && decide (0 ≤ (nI (8 * p)).toInt) && decide ((nI (8 * p)).toInt + (8 : Int32).toInt ≤ ((112 : Nat) : Int)) && decide ((nI (8 * N)).toInt + (8 : Int32).toInt ≤ ((112 : Nat) : Int)) && true && true && true) = true := by
      rw [e8, nI_toInt (show 8 < 2 ^ 31 by decide), nI_toInt (show 8 * N < 2 ^ 31 by omega), nI_toInt (show 8 * p < 2 ^ 31 by omega)]
      simp only [Bool.and_eq_true, decide_eq_true_eq, and_true]
      omega
    have c8 : (8 : Int32).toNatClampNeg = 8 := by decide +kernel
    have hpN : p ≠ N := by omega
    rcases hb with rfl | ⟨q, hq, rfl⟩
    · refine e_H_add ?_
      simp only [r_H_add_0, r_H_add_1, r_H_add_4, r_H_add_5, r_H_add_6, r_H_add_7, r_H_add_10, r_H_add_11, r_H_add_12, r_H_add_15, r_H_add_16, r_H_add_19, r_H_add_20, r_H_add_21, r_H_add_22, r_H_add_23, r_H_add_26, r_H_add_27, r_H_add_28, r_H_add_29, r_H_add_30, r_H_add_31, r_H_add_32, r_H_add_33, r_H_add_36, r_H_add_37, r_H_add_40, r_H_add_41, r_H_add_43, r_H_add_44, r_H_add_45, r_H_add_48, r_H_add_49, r_H_add_51, r_H_add_52, r_H_add_54, r_H_add_57, r_H_add_58, r_H_add_59, c_H_add_60 (sp_H_addParent hN (show p < 14 by omega)), r_H_add_63, r_H_add_64, r_H_add_65, r_H_add_68, r_H_add_69, r_H_add_70, r_H_add_71, r_H_add_74, r_H_add_75, hw, cf_in_nI hN (by decide), nI_clamp (show N < 2 ^ 31 by omega), true_and, cf_wa_s, cf_wa_n, pk_us, pk_un, ne_eq, Nat.reduceEqDiff, not_false_eq_true, reduceCtorEq, ↓reduceIte, nI_1, cf_m1 (show p < 2 ^ 31 by omega), cf_8', hcp, nI_clamp (show 8 * p < 2 ^ 31 by omega), nI_clamp (show 8 * N < 2 ^ 31 by omega), c8]
      refine ⟨fun k hk => ?_, ?_⟩
      · obtain ⟨h1, h2, h3, h4⟩ := hbd k hk
        simp [cf_wa, h1, h2, h3, h4]
      · simp [cf_wa, upd, cf_orp, cf_ora, cf_m1 (show p < 2 ^ 31 by omega), nI_clamp (show p < 2 ^ 31 by omega), hpN]
        simp only [cf_uu]
    · have hqN : q ≠ N := by omega
      refine e_H_add ?_
      simp only [r_H_add_0, r_H_add_1, r_H_add_4, r_H_add_5, r_H_add_6, r_H_add_7, r_H_add_10, r_H_add_11, r_H_add_12, r_H_add_15, r_H_add_16, r_H_add_19, r_H_add_20, r_H_add_21, r_H_add_22, r_H_add_23, r_H_add_26, r_H_add_27, r_H_add_28, r_H_add_29, r_H_add_30, r_H_add_31, r_H_add_32, r_H_add_33, r_H_add_36, r_H_add_37, r_H_add_40, r_H_add_41, r_H_add_43, r_H_add_44, r_H_add_45, r_H_add_48, r_H_add_49, r_H_add_51, r_H_add_52, r_H_add_54, r_H_add_57, r_H_add_58, r_H_add_59, c_H_add_60 (sp_H_addParent hN (show p < 14 by omega)), r_H_add_63, r_H_add_64, r_H_add_65, r_H_add_68, r_H_add_69, r_H_add_70, c_H_add_71 (sp_H_addParent hN (show q < 14 by omega)), r_H_add_74, r_H_add_75, hw, cf_in_nI hN (by decide), nI_clamp (show N < 2 ^ 31 by omega), true_and, cf_wa_s, cf_wa_n, pk_us, pk_un, ne_eq, Nat.reduceEqDiff, not_false_eq_true, reduceCtorEq, ↓reduceIte, nI_1, cf_m1 (show p < 2 ^ 31 by omega), cf_m1 (show q < 2 ^ 31 by omega), cf_8', hcp, nI_clamp (show 8 * p < 2 ^ 31 by omega), nI_clamp (show 8 * N < 2 ^ 31 by omega), c8]
      refine ⟨fun k hk => ?_, ?_⟩
      · obtain ⟨h1, h2, h3, h4⟩ := hbd k hk
        simp [cf_wa, h1, h2, h3, h4]
      · simp [cf_wa, upd, cf_orp, cf_ora, cf_m1 (show p < 2 ^ 31 by omega), nI_clamp (show p < 2 ^ 31 by omega), cf_m1 (show q < 2 ^ 31 by omega), nI_clamp (show q < 2 ^ 31 by omega), hpN, hqN]
        simp only [cf_uu]
/-- the lines in which the programs n and m differ, below k -/
def cf_chg (f : Nat → Int32) (n m : Nat) : Nat → Int32
  | 0 => 0
  | k + 1 => if f (8 * n + k) = f (8 * m + k) then cf_chg f n m k else cf_chg f n m k ||| 1 <<< (nI k &&& 31)
theorem lp_H_changedLines {n m : Nat} (hn : n < 14) (hm : m < 14) {w : cf_Wd} : ∀ d k, k + d = 8 → cf_wp T_H_changedLines (5, [some (.inr 1), some (.inl (nI n)), some (.inl (nI m)), some (.inl (cf_chg (w 4) n m k)), some (.inl (nI k))], [], w) (cf_qi (fun x w1 => x = cf_chg (w 4) n m 8 ∧ w1 = w)) := by
  intro d
  induction d with
  | zero =>
    intro k hk
    have e : k = 8 := by omega
    subst e
    refine r_H_changedLines_5.mpr ?_
    simp only [r_H_changedLines_0, r_H_changedLines_1, r_H_changedLines_2, r_H_changedLines_3, r_H_changedLines_7, r_H_changedLines_9, r_H_changedLines_12, r_H_changedLines_13, r_H_changedLines_14, r_H_changedLines_16, r_H_changedLines_19, r_H_changedLines_20, r_H_changedLines_21, r_H_changedLines_23, r_H_changedLines_26, r_H_changedLines_29, r_H_changedLines_30, r_H_changedLines_31, r_H_changedLines_33, r_H_changedLines_34, r_H_changedLines_35, r_H_changedLines_36, r_H_changedLines_39, r_H_changedLines_42, r_H_changedLines_43, cf_ge88, ↓reduceIte, and_self]
  | succ d ih =>
    intro k hk
    have h8 : k < 8 := by omega
    have ih1 := ih (k + 1) (by omega)
    refine r_H_changedLines_5.mpr ?_
    simp only [r_H_changedLines_0, r_H_changedLines_1, r_H_changedLines_2, r_H_changedLines_3, r_H_changedLines_7, r_H_changedLines_9, r_H_changedLines_12, r_H_changedLines_13, r_H_changedLines_14, c_H_changedLines_16 (sp_H_codeAt (show 8 * n + k < 112 by omega)), r_H_changedLines_19, r_H_changedLines_20, r_H_changedLines_21, c_H_changedLines_23 (sp_H_codeAt (show 8 * m + k < 112 by omega)), r_H_changedLines_26, r_H_changedLines_29, r_H_changedLines_30, r_H_changedLines_31, r_H_changedLines_33, r_H_changedLines_34, r_H_changedLines_35, r_H_changedLines_36, r_H_changedLines_39, r_H_changedLines_42, r_H_changedLines_43, cf_ge8 h8, ↓reduceIte, nI_1]
    by_cases h : w 4 (8 * n + k) = w 4 (8 * m + k)
    · rw [if_pos h]
      rw [show cf_chg (w 4) n m (k + 1) = cf_chg (w 4) n m k from if_pos h] at ih1
      exact ih1
    · rw [if_neg h]
      rw [show cf_chg (w 4) n m (k + 1) = cf_chg (w 4) n m k ||| 1 <<< (nI k &&& 31) from if_neg h] at ih1
      exact ih1
theorem sp_H_changedLines {n m : Nat} (hn : n < 14) (hm : m < 14) {w : cf_Wd} : F_H_changedLines [.inr 1, .inl (nI n), .inl (nI m)] w = some (some (.inl (cf_chg (w 4) n m 8)), w) := by
  refine cf_is (e_H_changedLines ?_)
  simp only [r_H_changedLines_0, r_H_changedLines_1, r_H_changedLines_2, r_H_changedLines_3]
  exact lp_H_changedLines hn hm 8 0 (by omega)
