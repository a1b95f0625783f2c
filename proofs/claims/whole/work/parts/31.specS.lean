/-! Search: small ones -/
theorem sp_S_loseTest {w : cf_Wd} : F_S_loseTest [.inr 10] w = some (none, cf_wa w 10 (upd (w 10) 15 0)) := by
  refine cf_isv (e_S_loseTest ?_)
  simp only [r_S_loseTest_0, r_S_loseTest_1, r_S_loseTest_2, r_S_loseTest_5, cf_z0, true_and]
theorem sp_R_reset {w : cf_Wd} : F_R_reset [.inr 11] w = some (none, cf_wa (cf_wa w 12 (cf_fill (w 12) 0 256)) 11 (upd (w 11) 1 (-1))) := by
  refine cf_isv (e_R_reset ?_)
  simp only [r_R_reset_0, r_R_reset_1, r_R_reset_4, c_R_reset_5 (sp_J_fill (k := 12) (N := 256) rfl rfl (by decide)), r_R_reset_8, r_R_reset_9, r_R_reset_10, r_R_reset_13, cf_wa_s, cf_wa_n, pk_us, pk_un, ne_eq, Nat.reduceEqDiff, not_false_eq_true, reduceCtorEq]
theorem sp_R_keepVerdict {w : cf_Wd} {t : Nat} (ht : t < 256) {v : Int32} : F_R_keepVerdict [.inr 11, .inl (nI t), .inl v] w = some (none, cf_wa w 12 (upd (w 12) t v)) := by
  refine cf_isv (e_R_keepVerdict ?_)
  simp only [r_R_keepVerdict_0, r_R_keepVerdict_1, r_R_keepVerdict_4, r_R_keepVerdict_5, r_R_keepVerdict_6, r_R_keepVerdict_7, cf_in_nI ht (by decide), nI_clamp (show t < 2 ^ 31 by omega), true_and]
/-- the search's fields when there is none -/
def cf_cls0 (f : Nat → Int32) : Nat → Int32 := upd (upd (upd (upd (upd (upd (upd f 5 0) 6 0) 11 0) 12 0) 13 (-1)) 14 (-1)) 15 0
def cf_closed (w : cf_Wd) : cf_Wd := cf_wa (cf_wa (cf_wa (cf_wa w 14 (cf_fill (w 14) 0 14)) 12 (cf_fill (w 12) 0 256)) 11 (upd (w 11) 1 (-1))) 10 (cf_cls0 (w 10))
theorem sp_S_close {w : cf_Wd} : F_S_close [.inr 10] w = some (none, cf_closed w) := by
  refine cf_isv (e_S_close ?_)
  simp only [r_S_close_0, r_S_close_1, r_S_close_4, c_S_close_5 (sp_J_fill (k := 14) (N := 14) rfl rfl (by decide)), r_S_close_8, r_S_close_9, c_S_close_12 (sp_R_reset), r_S_close_15, r_S_close_16, r_S_close_17, r_S_close_20, r_S_close_21, r_S_close_22, r_S_close_25, r_S_close_26, r_S_close_27, r_S_close_30, r_S_close_31, r_S_close_32, r_S_close_35, r_S_close_36, r_S_close_37, r_S_close_40, r_S_close_41, r_S_close_42, r_S_close_45, c_S_close_46 sp_S_loseTest, r_S_close_49, cf_wa_s, cf_wa_n, pk_us, pk_un, ne_eq, Nat.reduceEqDiff, not_false_eq_true, reduceCtorEq, cf_wa_wa]
  rfl
theorem sp_S_startTest {w : cf_Wd} : F_S_startTest [.inr 10] w = some (if w 10 14 = -1 ∨ ¬ w 10 15 = 0 then (some (.inl 0), w) else (some (.inl 1), cf_wa w 10 (upd (upd (w 10) 15 1) 16 (w 10 16 + 1)))) := by
  by_cases h1 : w 10 14 = -1
  · rw [if_pos (Or.inl h1)]
    refine cf_is (e_S_startTest ?_)
    simp only [r_S_startTest_0, r_S_startTest_1, r_S_startTest_4, r_S_startTest_5, r_S_startTest_8, r_S_startTest_9, r_S_startTest_12, r_S_startTest_15, r_S_startTest_16, r_S_startTest_17, r_S_startTest_18, r_S_startTest_19, r_S_startTest_22, r_S_startTest_23, r_S_startTest_24, r_S_startTest_27, r_S_startTest_28, r_S_startTest_29, r_S_startTest_32, r_S_startTest_33, h1, ↓reduceIte]
    exact ⟨Or.inl trivial, trivial, trivial⟩
  · by_cases h2 : w 10 15 = 0
    · rw [if_neg (fun x => x.elim h1 (fun y => y h2))]
      refine cf_is (e_S_startTest ?_)
      simp only [r_S_startTest_0, r_S_startTest_1, r_S_startTest_4, r_S_startTest_5, r_S_startTest_8, r_S_startTest_9, r_S_startTest_12, r_S_startTest_15, r_S_startTest_16, r_S_startTest_17, r_S_startTest_18, r_S_startTest_19, r_S_startTest_22, r_S_startTest_23, r_S_startTest_24, r_S_startTest_27, r_S_startTest_28, r_S_startTest_29, r_S_startTest_32, r_S_startTest_33, h1, h2, ↓reduceIte, cf_z1, true_and, cf_wa_s, cf_wa_n, pk_us, pk_un, ne_eq, Nat.reduceEqDiff, not_false_eq_true, reduceCtorEq, cf_wa_wa]
      exact ⟨Or.inr trivial, trivial⟩
    · rw [if_pos (Or.inr h2)]
      refine cf_is (e_S_startTest ?_)
      simp only [r_S_startTest_0, r_S_startTest_1, r_S_startTest_4, r_S_startTest_5, r_S_startTest_8, r_S_startTest_9, r_S_startTest_12, r_S_startTest_15, r_S_startTest_16, r_S_startTest_17, r_S_startTest_18, r_S_startTest_19, r_S_startTest_22, r_S_startTest_23, r_S_startTest_24, r_S_startTest_27, r_S_startTest_28, r_S_startTest_29, r_S_startTest_32, r_S_startTest_33, h1, h2, ↓reduceIte]
      exact ⟨Or.inl trivial, trivial, trivial⟩
theorem sp_S_isSuspect {c : Int32} {w : cf_Wd} : F_S_isSuspect [.inr 10, .inl c] w = some (some (.inl (cf_b (cf_has w c && cf_bit (w 10 12) c))), w) := by
  refine cf_is (e_S_isSuspect ?_)
  simp only [r_S_isSuspect_0, r_S_isSuspect_1, r_S_isSuspect_4, c_S_isSuspect_5 sp_H_has, r_S_isSuspect_8, r_S_isSuspect_11, r_S_isSuspect_12, r_S_isSuspect_15, r_S_isSuspect_16, r_S_isSuspect_17, r_S_isSuspect_18, r_S_isSuspect_19, r_S_isSuspect_22, r_S_isSuspect_23, r_S_isSuspect_26, r_S_isSuspect_27, cf_b_e0]
  cases h0 : cf_has w c
  · simp [cf_b]
  · by_cases h1 : w 10 12 >>> (c &&& 31) &&& 1 = 0
    · rw [cf_bit_f h1]
      simp [h1, cf_b]
    · rw [cf_bit_t h1]
      simp [h1, cf_b]
theorem sp_S_weightOf {c : Nat} (hc : c < 14) {w : cf_Wd} (hA : cf_m14 (w 3 c)) : F_S_weightOf [.inr 10, .inl (nI c)] w = some (some (.inl (nI (cf_pw (w 3 c &&& w 10 12)))), w) := by
  refine cf_is (e_S_weightOf ?_)
  simp only [r_S_weightOf_0, r_S_weightOf_1, r_S_weightOf_4, r_S_weightOf_7, r_S_weightOf_8, r_S_weightOf_9, r_S_weightOf_10, r_S_weightOf_13, c_S_weightOf_14 sp_J_bitCount, r_S_weightOf_17, cf_in_nI hc (by decide), nI_clamp (show c < 2 ^ 31 by omega), true_and, cf_bc_e (cf_m14_and hA), and_self]
/-! the best halver: upwards -/
def cf_as (el : Nat → Bool) (lz : Nat → Nat) : Nat → Int32 × Int32
  | 0 => (-1, -1)
  | c + 1 => if el c = true then (if nI (lz c) ≤ (cf_as el lz c).2 then cf_as el lz c else (nI c, nI (lz c))) else cf_as el lz c
theorem cf_as_f {el : Nat → Bool} {lz : Nat → Nat} {k : Nat} (h : el k = false) : cf_as el lz (k + 1) = cf_as el lz k := if_neg (by rw [h]; decide)
theorem cf_as_t {el : Nat → Bool} {lz : Nat → Nat} {k : Nat} (h : el k = true) : cf_as el lz (k + 1) = if nI (lz k) ≤ (cf_as el lz k).2 then cf_as el lz k else (nI k, nI (lz k)) := if_pos h
theorem cf_as_b {el : Nat → Bool} {lz : Nat → Nat} (hlz : ∀ c, lz c < 2 ^ 31) : ∀ k, cf_Bst el lz 0 k (cf_as el lz k).1 (cf_as el lz k).2 := by
  intro k
  induction k with
  | zero => exact Or.inl ⟨rfl, rfl, fun c _ h => absurd h (Nat.not_lt_zero c)⟩
  | succ k ih =>
    cases he : el k
    · rw [cf_as_f he]
      rcases ih with ⟨h1, h2, h3⟩ | ⟨c, c1, c2, c3, c4, c5, c6, c7⟩
      · refine Or.inl ⟨h1, h2, fun c hc1 hc2 => ?_⟩
        by_cases e : c = k
        · subst e; exact he
        · exact h3 c hc1 (by omega)
      · refine Or.inr ⟨c, c1, by omega, c3, c4, c5, fun d hd1 hd2 hd3 => ?_, c7⟩
        by_cases e : d = k
        · subst e; rw [he] at hd3; cases hd3
        · exact c6 d hd1 (by omega) hd3
    · rw [cf_as_t he]
      rcases ih with ⟨h1, h2, h3⟩ | ⟨c, c1, c2, c3, c4, c5, c6, c7⟩
      · have a2 : ¬ nI (lz k) ≤ (cf_as el lz k).2 := fun h => by
          rw [h2] at h
          have := Int32.le_iff_toInt_le.mp h
          rw [nI_toInt (hlz k)] at this
          have e : (-1 : Int32).toInt = -1 := by decide +kernel
          omega
        rw [if_neg a2]
        refine Or.inr ⟨k, by omega, by omega, he, rfl, rfl, fun d hd1 hd2 hd3 => ?_, fun d hd1 hd2 hd3 => ?_⟩
        · by_cases e : d = k
          · subst e; exact Nat.le_refl _
          · have := h3 d hd1 (by omega)
            rw [this] at hd3
            cases hd3
        · have := h3 d hd1 hd2
          rw [this] at hd3
          cases hd3
      · by_cases hle : lz k ≤ lz c
        · rw [if_pos (by rw [c5]; exact nI_le hle (hlz c))]
          refine Or.inr ⟨c, c1, by omega, c3, c4, c5, fun d hd1 hd2 hd3 => ?_, c7⟩
          by_cases e : d = k
          · subst e; exact hle
          · exact c6 d hd1 (by omega) hd3
        · rw [if_neg (by rw [c5]; exact nI_ge (by omega) (hlz k))]
          refine Or.inr ⟨k, by omega, by omega, he, rfl, rfl, fun d hd1 hd2 hd3 => ?_, fun d hd1 hd2 hd3 => ?_⟩
          · by_cases e : d = k
            · subst e; exact Nat.le_refl _
            · have := c6 d hd1 (by omega) hd3
              omega
          · have := c6 d hd1 hd2 hd3
            omega
theorem cf_minw {p q : Nat} (h : p ≤ q) (hq : q < 2 ^ 31) : (if nI q - nI p < nI p then nI q - nI p else nI p) = nI (min p (q - p)) := by
  rw [cf_nsub h]
  by_cases h1 : q - p < p
  · rw [if_pos (nI_lt h1 (by omega))]
    congr 1
    omega
  · rw [if_neg (nI_nlt (by omega) (by omega))]
    congr 1
    omega
def cf_el2 (w : cf_Wd) (c : Nat) : Bool := cf_has w (nI c) && (bt (w 10 12) c && decide (w 14 c = 0))
theorem lp_S_bestHalver {w : cf_Wd} (hA : ∀ c, c < 14 → cf_has w (nI c) = true → cf_m14 (w 3 c)) : ∀ d k, k + d = 14 → ∀ l5 l6, cf_wp T_S_bestHalver (15, [some (.inr 10), some (.inl (nI (cf_pw (w 10 12)))), some (.inl (cf_as (cf_el2 w) (cf_lz (w 3) (w 10 12)) k).1), some (.inl (cf_as (cf_el2 w) (cf_lz (w 3) (w 10 12)) k).2), some (.inl (nI k)), l5, l6], [], w) (cf_qi (fun x w1 => x = (cf_as (cf_el2 w) (cf_lz (w 3) (w 10 12)) 14).1 ∧ w1 = w)) := by
  intro d
  have e14 : (14 : Int32) = nI 14 := by decide +kernel
  induction d with
  | zero =>
    intro k hk l5 l6
    have e : k = 14 := by omega
    subst e
    have hc : ((14 : Int32) ≤ nI 14) = True := eq_true (by decide +kernel)
    refine r_S_bestHalver_15.mpr ?_
    simp only [r_S_bestHalver_17, r_S_bestHalver_19, hc, ↓reduceIte, r_S_bestHalver_78, r_S_bestHalver_79, and_self]
  | succ d ih =>
    intro k hk l5 l6
    have hk14 : k < 14 := by omega
    have hc : ((14 : Int32) ≤ nI k) = False := by
      rw [e14]
      exact eq_false (nI_ge (by omega) (by decide))
    have ih1 := ih (k + 1) (by omega)
    have hle := cf_pw_and (w 3 k) (w 10 12)
    have h14 := cf_pw_14 (w 10 12)
    refine r_S_bestHalver_15.mpr ?_
    cases h0 : cf_has w (nI k)
    · rw [cf_as_f (show cf_el2 w k = false by simp [cf_el2, h0])] at ih1
      simp only [r_S_bestHalver_0, r_S_bestHalver_1, c_S_bestHalver_4 sp_J_bitCount, r_S_bestHalver_7, r_S_bestHalver_8, r_S_bestHalver_9, r_S_bestHalver_10, r_S_bestHalver_11, r_S_bestHalver_12, r_S_bestHalver_13, r_S_bestHalver_17, r_S_bestHalver_19, r_S_bestHalver_22, r_S_bestHalver_23, c_S_bestHalver_25 (sp_S_isSuspect), r_S_bestHalver_28, r_S_bestHalver_31, r_S_bestHalver_32, r_S_bestHalver_35, r_S_bestHalver_37, r_S_bestHalver_38, r_S_bestHalver_41, r_S_bestHalver_42, r_S_bestHalver_44, r_S_bestHalver_47, r_S_bestHalver_49, r_S_bestHalver_51, r_S_bestHalver_52, r_S_bestHalver_54, r_S_bestHalver_55, r_S_bestHalver_58, r_S_bestHalver_60, r_S_bestHalver_62, r_S_bestHalver_63, r_S_bestHalver_66, r_S_bestHalver_68, r_S_bestHalver_69, r_S_bestHalver_71, r_S_bestHalver_72, r_S_bestHalver_75, r_S_bestHalver_78, r_S_bestHalver_79, hc, ↓reduceIte, h0, Bool.false_and, cf_b_e0, nI_1]
      exact ih1 _ _
    · cases h1 : bt (w 10 12) k
      · rw [cf_as_f (show cf_el2 w k = false by simp [cf_el2, h1])] at ih1
        simp only [r_S_bestHalver_0, r_S_bestHalver_1, c_S_bestHalver_4 sp_J_bitCount, r_S_bestHalver_7, r_S_bestHalver_8, r_S_bestHalver_9, r_S_bestHalver_10, r_S_bestHalver_11, r_S_bestHalver_12, r_S_bestHalver_13, r_S_bestHalver_17, r_S_bestHalver_19, r_S_bestHalver_22, r_S_bestHalver_23, c_S_bestHalver_25 (sp_S_isSuspect), r_S_bestHalver_28, r_S_bestHalver_31, r_S_bestHalver_32, r_S_bestHalver_35, r_S_bestHalver_37, r_S_bestHalver_38, r_S_bestHalver_41, r_S_bestHalver_42, r_S_bestHalver_44, r_S_bestHalver_47, r_S_bestHalver_49, r_S_bestHalver_51, r_S_bestHalver_52, r_S_bestHalver_54, r_S_bestHalver_55, r_S_bestHalver_58, r_S_bestHalver_60, r_S_bestHalver_62, r_S_bestHalver_63, r_S_bestHalver_66, r_S_bestHalver_68, r_S_bestHalver_69, r_S_bestHalver_71, r_S_bestHalver_72, r_S_bestHalver_75, r_S_bestHalver_78, r_S_bestHalver_79, hc, ↓reduceIte, h0, cf_bit_bt (show k < 32 by omega), h1, Bool.and_false, cf_b_e0, nI_1]
        exact ih1 _ _
      · by_cases h2 : w 14 k = 0
        · rw [cf_as_t (show cf_el2 w k = true by simp [cf_el2, h0, h1, h2])] at ih1
          simp only [r_S_bestHalver_0, r_S_bestHalver_1, c_S_bestHalver_4 sp_J_bitCount, r_S_bestHalver_7, r_S_bestHalver_8, r_S_bestHalver_9, r_S_bestHalver_10, r_S_bestHalver_11, r_S_bestHalver_12, r_S_bestHalver_13, r_S_bestHalver_17, r_S_bestHalver_19, r_S_bestHalver_22, r_S_bestHalver_23, c_S_bestHalver_25 (sp_S_isSuspect), r_S_bestHalver_28, r_S_bestHalver_31, r_S_bestHalver_32, r_S_bestHalver_35, r_S_bestHalver_37, r_S_bestHalver_38, r_S_bestHalver_41, r_S_bestHalver_42, c_S_bestHalver_44 (sp_S_weightOf hk14 (hA k hk14 h0)), r_S_bestHalver_47, r_S_bestHalver_49, r_S_bestHalver_51, r_S_bestHalver_52, r_S_bestHalver_54, r_S_bestHalver_55, r_S_bestHalver_58, r_S_bestHalver_60, r_S_bestHalver_62, r_S_bestHalver_63, r_S_bestHalver_66, r_S_bestHalver_68, r_S_bestHalver_69, r_S_bestHalver_71, r_S_bestHalver_72, r_S_bestHalver_75, r_S_bestHalver_78, r_S_bestHalver_79, hc, ↓reduceIte, h0, cf_bit_bt (show k < 32 by omega), h1, Bool.and_true, cf_b_e0, reduceCtorEq, cf_in_nI hk14 (by decide), nI_clamp (show k < 2 ^ 31 by omega), true_and, h2, not_true_eq_false, nI_1, cf_minw hle (show cf_pw (w 10 12) < 2 ^ 31 by omega)]
          by_cases h3 : nI (min (cf_pw (w 3 k &&& w 10 12)) (cf_pw (w 10 12) - cf_pw (w 3 k &&& w 10 12))) ≤ (cf_as (cf_el2 w) (cf_lz (w 3) (w 10 12)) k).2
          · rw [if_pos (show nI (cf_lz (w 3) (w 10 12) k) ≤ _ from h3)] at ih1
            rw [if_pos h3]
            exact ih1 _ _
          · rw [if_neg (show ¬ nI (cf_lz (w 3) (w 10 12) k) ≤ _ from h3)] at ih1
            rw [if_neg h3]
            exact ih1 _ _
        · rw [cf_as_f (show cf_el2 w k = false by simp [cf_el2, h2])] at ih1
          simp only [r_S_bestHalver_0, r_S_bestHalver_1, c_S_bestHalver_4 sp_J_bitCount, r_S_bestHalver_7, r_S_bestHalver_8, r_S_bestHalver_9, r_S_bestHalver_10, r_S_bestHalver_11, r_S_bestHalver_12, r_S_bestHalver_13, r_S_bestHalver_17, r_S_bestHalver_19, r_S_bestHalver_22, r_S_bestHalver_23, c_S_bestHalver_25 (sp_S_isSuspect), r_S_bestHalver_28, r_S_bestHalver_31, r_S_bestHalver_32, r_S_bestHalver_35, r_S_bestHalver_37, r_S_bestHalver_38, r_S_bestHalver_41, r_S_bestHalver_42, r_S_bestHalver_44, r_S_bestHalver_47, r_S_bestHalver_49, r_S_bestHalver_51, r_S_bestHalver_52, r_S_bestHalver_54, r_S_bestHalver_55, r_S_bestHalver_58, r_S_bestHalver_60, r_S_bestHalver_62, r_S_bestHalver_63, r_S_bestHalver_66, r_S_bestHalver_68, r_S_bestHalver_69, r_S_bestHalver_71, r_S_bestHalver_72, r_S_bestHalver_75, r_S_bestHalver_78, r_S_bestHalver_79, hc, ↓reduceIte, h0, cf_bit_bt (show k < 32 by omega), h1, Bool.and_true, cf_b_e0, reduceCtorEq, cf_in_nI hk14 (by decide), nI_clamp (show k < 2 ^ 31 by omega), true_and, h2, not_false_eq_true, nI_1]
          exact ih1 _ _
theorem sp_S_bestHalver {w : cf_Wd} (hS : cf_m14 (w 10 12)) (hA : ∀ c, c < 14 → cf_has w (nI c) = true → cf_m14 (w 3 c)) : F_S_bestHalver [.inr 10] w = some (some (.inl (cf_as (cf_el2 w) (cf_lz (w 3) (w 10 12)) 14).1), w) := by
  refine cf_is (e_S_bestHalver ?_)
  simp only [r_S_bestHalver_0, r_S_bestHalver_1, c_S_bestHalver_4 sp_J_bitCount, r_S_bestHalver_7, r_S_bestHalver_8, r_S_bestHalver_9, r_S_bestHalver_10, r_S_bestHalver_11, r_S_bestHalver_12, r_S_bestHalver_13, r_S_bestHalver_17, r_S_bestHalver_19, r_S_bestHalver_22, r_S_bestHalver_23, r_S_bestHalver_25, r_S_bestHalver_28, r_S_bestHalver_31, r_S_bestHalver_32, r_S_bestHalver_35, r_S_bestHalver_37, r_S_bestHalver_38, r_S_bestHalver_41, r_S_bestHalver_42, r_S_bestHalver_44, r_S_bestHalver_47, r_S_bestHalver_49, r_S_bestHalver_51, r_S_bestHalver_52, r_S_bestHalver_54, r_S_bestHalver_55, r_S_bestHalver_58, r_S_bestHalver_60, r_S_bestHalver_62, r_S_bestHalver_63, r_S_bestHalver_66, r_S_bestHalver_68, r_S_bestHalver_69, r_S_bestHalver_71, r_S_bestHalver_72, r_S_bestHalver_75, r_S_bestHalver_78, r_S_bestHalver_79, cf_bc_e hS]
  have h := lp_S_bestHalver hA 14 0 (by omega) none none
  rw [nI_0] at h
  exact h
