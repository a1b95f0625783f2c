/-! entry -/
theorem tw_entry {w : cf_Wd} {n : Nat} {k : Int32} (hn : n ≤ 512) (hI : cf_Inv w n) : cf_two F_C_entry F_P_entry [.inl k] w (n + 1) := by
  have hI0 := hI
  obtain ⟨N, hH, hs, hr⟩ := hI
  rcases hr with ⟨⟨a5, a9, b5, b15⟩, ht⟩ | ⟨m, g, b, h4, h5⟩
  · refine ⟨-1, w, w, cf_is (e_C_entry ?_), cf_is (e_P_entry ?_), cf_Inv_up hI0⟩
    · simp only [r_C_entry_0, r_C_entry_1, r_C_entry_4, r_C_entry_5, r_C_entry_6, r_C_entry_9, r_C_entry_12, r_C_entry_15, r_C_entry_16, r_C_entry_19, r_C_entry_22, r_C_entry_23, r_C_entry_24, r_C_entry_27, r_C_entry_28, b5]
      by_cases h1 : k < 0
      · simp only [h1, ↓reduceIte, and_self]
      · have h2 : 0 ≤ k := Int32.not_lt.mp h1
        simp only [h1, h2, ↓reduceIte, and_self]
    · simp only [r_P_entry_0, r_P_entry_1, r_P_entry_4, r_P_entry_7, r_P_entry_8, r_P_entry_9, r_P_entry_10, r_P_entry_13, r_P_entry_14, c_P_entry_15 sp_P_in, r_P_entry_18, r_P_entry_21, r_P_entry_23, r_P_entry_24, r_P_entry_27, r_P_entry_28, r_P_entry_29, r_P_entry_30, r_P_entry_31, r_P_entry_34, r_P_entry_35, r_P_entry_36, r_P_entry_37, r_P_entry_40, r_P_entry_41, a5, ↓reduceIte, and_self]
  · obtain ⟨⟨s5, s11, c5, s6, c7, s7, c8, s8, s9⟩, ⟨hg, hb, hgb⟩, hrun, hj, hVt, htu, hIn⟩ := h5
    have hm : m ≤ 256 := by
      rcases h4 with h4 | h4 <;> omega
    have hin : cf_inn k 0 (nI m - 1) = (!decide (k < 0) && !decide (nI m ≤ k)) := by
      unfold cf_inn
      have e : (nI m - 1 < k) = (nI m ≤ k) := by
        apply propext
        rw [Int32.lt_iff_toInt_lt, Int32.le_iff_toInt_le, nI_toInt (by omega)]
        have e2 : (nI m - 1).toInt = (m : Int) - 1 := by
          cases m with
          | zero => decide +kernel
          | succ q =>
            rw [nI_pred, nI_toInt (by omega)]
            omega
        rw [e2]
        omega
      simp only [e]
    by_cases h1 : k < 0
    · have hf : cf_inn k 0 (nI m - 1) = false := by
        rw [hin]
        simp [h1]
      refine ⟨-1, w, w, cf_is (e_C_entry ?_), cf_is (e_P_entry ?_), cf_Inv_up hI0⟩
      · simp only [r_C_entry_0, r_C_entry_1, r_C_entry_4, r_C_entry_5, r_C_entry_6, r_C_entry_9, r_C_entry_12, r_C_entry_15, r_C_entry_16, r_C_entry_19, r_C_entry_22, r_C_entry_23, r_C_entry_24, r_C_entry_27, r_C_entry_28, c5, h1, ↓reduceIte, and_self]
      · simp only [r_P_entry_0, r_P_entry_1, r_P_entry_4, r_P_entry_7, r_P_entry_8, r_P_entry_9, r_P_entry_10, r_P_entry_13, r_P_entry_14, c_P_entry_15 sp_P_in, r_P_entry_18, r_P_entry_21, r_P_entry_23, r_P_entry_24, r_P_entry_27, r_P_entry_28, r_P_entry_29, r_P_entry_30, r_P_entry_31, r_P_entry_34, r_P_entry_35, r_P_entry_36, r_P_entry_37, r_P_entry_40, r_P_entry_41, s5, s11, hf, cf_b_e0, cf_q_0_1, cf_q_0_2, cf_q_0_3, cf_q_0_4, cf_q_0_5, cf_q_0_6, cf_q_0_7, cf_q_0_8, cf_q_0_9, cf_q_1_0, cf_q_1_2, cf_q_1_3, cf_q_1_4, cf_q_1_5, cf_q_1_6, cf_q_1_7, cf_q_1_8, cf_q_1_9, cf_q_2_0, cf_q_2_1, cf_q_2_3, cf_q_2_4, cf_q_2_5, cf_q_2_6, cf_q_2_7, cf_q_2_8, cf_q_2_9, cf_q_3_0, cf_q_3_1, cf_q_3_2, cf_q_3_4, cf_q_3_5, cf_q_3_6, cf_q_3_7, cf_q_3_8, cf_q_3_9, cf_q_4_0, cf_q_4_1, cf_q_4_2, cf_q_4_3, cf_q_4_5, cf_q_4_6, cf_q_4_7, cf_q_4_8, cf_q_4_9, cf_q_5_0, cf_q_5_1, cf_q_5_2, cf_q_5_3, cf_q_5_4, cf_q_5_6, cf_q_5_7, cf_q_5_8, cf_q_5_9, cf_q_6_0, cf_q_6_1, cf_q_6_2, cf_q_6_3, cf_q_6_4, cf_q_6_5, cf_q_6_7, cf_q_6_8, cf_q_6_9, cf_q_7_0, cf_q_7_1, cf_q_7_2, cf_q_7_3, cf_q_7_4, cf_q_7_5, cf_q_7_6, cf_q_7_8, cf_q_7_9, cf_q_8_0, cf_q_8_1, cf_q_8_2, cf_q_8_3, cf_q_8_4, cf_q_8_5, cf_q_8_6, cf_q_8_7, cf_q_8_9, cf_q_9_0, cf_q_9_1, cf_q_9_2, cf_q_9_3, cf_q_9_4, cf_q_9_5, cf_q_9_6, cf_q_9_7, cf_q_9_8, ↓reduceIte, and_self]
    · by_cases h2 : nI m ≤ k
      · have hf : cf_inn k 0 (nI m - 1) = false := by
          rw [hin]
          simp [h2]
        refine ⟨-1, w, w, cf_is (e_C_entry ?_), cf_is (e_P_entry ?_), cf_Inv_up hI0⟩
        · simp only [r_C_entry_0, r_C_entry_1, r_C_entry_4, r_C_entry_5, r_C_entry_6, r_C_entry_9, r_C_entry_12, r_C_entry_15, r_C_entry_16, r_C_entry_19, r_C_entry_22, r_C_entry_23, r_C_entry_24, r_C_entry_27, r_C_entry_28, c5, h1, h2, ↓reduceIte, and_self]
        · simp only [r_P_entry_0, r_P_entry_1, r_P_entry_4, r_P_entry_7, r_P_entry_8, r_P_entry_9, r_P_entry_10, r_P_entry_13, r_P_entry_14, c_P_entry_15 sp_P_in, r_P_entry_18, r_P_entry_21, r_P_entry_23, r_P_entry_24, r_P_entry_27, r_P_entry_28, r_P_entry_29, r_P_entry_30, r_P_entry_31, r_P_entry_34, r_P_entry_35, r_P_entry_36, r_P_entry_37, r_P_entry_40, r_P_entry_41, s5, s11, hf, cf_b_e0, cf_q_0_1, cf_q_0_2, cf_q_0_3, cf_q_0_4, cf_q_0_5, cf_q_0_6, cf_q_0_7, cf_q_0_8, cf_q_0_9, cf_q_1_0, cf_q_1_2, cf_q_1_3, cf_q_1_4, cf_q_1_5, cf_q_1_6, cf_q_1_7, cf_q_1_8, cf_q_1_9, cf_q_2_0, cf_q_2_1, cf_q_2_3, cf_q_2_4, cf_q_2_5, cf_q_2_6, cf_q_2_7, cf_q_2_8, cf_q_2_9, cf_q_3_0, cf_q_3_1, cf_q_3_2, cf_q_3_4, cf_q_3_5, cf_q_3_6, cf_q_3_7, cf_q_3_8, cf_q_3_9, cf_q_4_0, cf_q_4_1, cf_q_4_2, cf_q_4_3, cf_q_4_5, cf_q_4_6, cf_q_4_7, cf_q_4_8, cf_q_4_9, cf_q_5_0, cf_q_5_1, cf_q_5_2, cf_q_5_3, cf_q_5_4, cf_q_5_6, cf_q_5_7, cf_q_5_8, cf_q_5_9, cf_q_6_0, cf_q_6_1, cf_q_6_2, cf_q_6_3, cf_q_6_4, cf_q_6_5, cf_q_6_7, cf_q_6_8, cf_q_6_9, cf_q_7_0, cf_q_7_1, cf_q_7_2, cf_q_7_3, cf_q_7_4, cf_q_7_5, cf_q_7_6, cf_q_7_8, cf_q_7_9, cf_q_8_0, cf_q_8_1, cf_q_8_2, cf_q_8_3, cf_q_8_4, cf_q_8_5, cf_q_8_6, cf_q_8_7, cf_q_8_9, cf_q_9_0, cf_q_9_1, cf_q_9_2, cf_q_9_3, cf_q_9_4, cf_q_9_5, cf_q_9_6, cf_q_9_7, cf_q_9_8, ↓reduceIte, and_self]
      · have hf : cf_inn k 0 (nI m - 1) = true := by
          rw [hin]
          simp [h1, h2]
        obtain ⟨q, hq, rfl⟩ := nI_of h1
        have hqm : q < m := by
          rw [nI_leI (by omega) hq] at h2
          omega
        refine ⟨w 13 q, w, w, cf_is (e_C_entry ?_), cf_is (e_P_entry ?_), cf_Inv_up hI0⟩
        · simp only [r_C_entry_0, r_C_entry_1, r_C_entry_4, r_C_entry_5, r_C_entry_6, r_C_entry_9, r_C_entry_12, r_C_entry_15, r_C_entry_16, r_C_entry_19, r_C_entry_22, r_C_entry_23, r_C_entry_24, r_C_entry_27, r_C_entry_28, c5, h1, h2, ↓reduceIte, cf_in_nI (show q < 270 by omega) (by decide), nI_clamp hq, true_and, and_self]
        · simp only [r_P_entry_0, r_P_entry_1, r_P_entry_4, r_P_entry_7, r_P_entry_8, r_P_entry_9, r_P_entry_10, r_P_entry_13, r_P_entry_14, c_P_entry_15 sp_P_in, r_P_entry_18, r_P_entry_21, r_P_entry_23, r_P_entry_24, r_P_entry_27, r_P_entry_28, r_P_entry_29, r_P_entry_30, r_P_entry_31, r_P_entry_34, r_P_entry_35, r_P_entry_36, r_P_entry_37, r_P_entry_40, r_P_entry_41, s5, s11, hf, cf_b_e0, cf_q_0_1, cf_q_0_2, cf_q_0_3, cf_q_0_4, cf_q_0_5, cf_q_0_6, cf_q_0_7, cf_q_0_8, cf_q_0_9, cf_q_1_0, cf_q_1_2, cf_q_1_3, cf_q_1_4, cf_q_1_5, cf_q_1_6, cf_q_1_7, cf_q_1_8, cf_q_1_9, cf_q_2_0, cf_q_2_1, cf_q_2_3, cf_q_2_4, cf_q_2_5, cf_q_2_6, cf_q_2_7, cf_q_2_8, cf_q_2_9, cf_q_3_0, cf_q_3_1, cf_q_3_2, cf_q_3_4, cf_q_3_5, cf_q_3_6, cf_q_3_7, cf_q_3_8, cf_q_3_9, cf_q_4_0, cf_q_4_1, cf_q_4_2, cf_q_4_3, cf_q_4_5, cf_q_4_6, cf_q_4_7, cf_q_4_8, cf_q_4_9, cf_q_5_0, cf_q_5_1, cf_q_5_2, cf_q_5_3, cf_q_5_4, cf_q_5_6, cf_q_5_7, cf_q_5_8, cf_q_5_9, cf_q_6_0, cf_q_6_1, cf_q_6_2, cf_q_6_3, cf_q_6_4, cf_q_6_5, cf_q_6_7, cf_q_6_8, cf_q_6_9, cf_q_7_0, cf_q_7_1, cf_q_7_2, cf_q_7_3, cf_q_7_4, cf_q_7_5, cf_q_7_6, cf_q_7_8, cf_q_7_9, cf_q_8_0, cf_q_8_1, cf_q_8_2, cf_q_8_3, cf_q_8_4, cf_q_8_5, cf_q_8_6, cf_q_8_7, cf_q_8_9, cf_q_9_0, cf_q_9_1, cf_q_9_2, cf_q_9_3, cf_q_9_4, cf_q_9_5, cf_q_9_6, cf_q_9_7, cf_q_9_8, reduceCtorEq, ↓reduceIte, cf_in_nI (show q < 600 by omega) (by decide), nI_clamp hq, true_and, and_self, hj q hqm]
/-! stage 0 is no search -/
theorem cf_wk_st {A Fi Li : Nat → Int32} {N g b : Nat} {V : Int32 → Int32} : (cf_wk A Fi Li N g b V).1 ≠ 0 := by
  have hh : ∀ f wo T S, (cf_hv A N V f wo T S).1 ≠ 0 := by
    intro f
    induction f with
    | zero => intro wo T S; show (2 : Int32) ≠ 0; decide
    | succ f ih =>
      intro wo T S
      simp only [cf_hv]
      by_cases h1 : cf_mid A N S T wo = -1
      · rw [if_pos h1]
        by_cases h2 : S = 1 <<< (nI wo &&& 31)
        · rw [if_pos h2]
          show (3 : Int32) ≠ 0
          decide
        · rw [if_neg h2]
          show (5 : Int32) ≠ 0
          decide
      · rw [if_neg h1]
        by_cases h2 : V (cf_mid A N S T wo) = 0
        · rw [if_pos h2]
          show (2 : Int32) ≠ 0
          decide
        · rw [if_neg h2]
          exact ih _ _ _
  have ht : ∀ (R : Nat → Int32 × Int32) (h : Int32 × Int32 × Int32 × Int32), h.1 ≠ 0 → (cf_tl Fi Li V R h).1 ≠ 0 := by
    intro R h h0
    unfold cf_tl
    split
    · exact h0
    · split
      · show (4 : Int32) ≠ 0
        decide
      · split
        · show (3 : Int32) ≠ 0
          decide
        · split
          · show (4 : Int32) ≠ 0
            decide
          · show (if _ then (4 : Int32) else 3) ≠ 0
            split
            · decide
            · decide
  by_cases b0 : V (nI b) = 0
  · rw [cf_wk_b0 b0]
    show (1 : Int32) ≠ 0
    decide
  · by_cases b2 : V (nI b) = 2
    · by_cases g0 : V (nI g) = 0
      · rw [cf_wk_g0 b2 g0]
        show (1 : Int32) ≠ 0
        decide
      · by_cases g1 : V (nI g) = 1
        · rw [cf_wk_h b2 g1]
          exact ht _ _ (hh _ _ _ _)
        · rw [cf_wk_g6 b2 g0 g1]
          show (6 : Int32) ≠ 0
          decide
    · rw [cf_wk_b6 b0 b2]
      show (6 : Int32) ≠ 0
      decide
theorem cf_Se_st {w : cf_Wd} {N m g b : Nat} (h : cf_Se w N m g b) : w 10 6 ≠ 0 := by
  obtain ⟨_, _, _, _, _, htu, _⟩ := h
  have e : w 10 6 = (cf_tup w).1 := rfl
  rw [e, htu]
  exact cf_wk_st
theorem cf_Nos_st {w : cf_Wd} (h : cf_Nos w) : w 10 6 = 0 := by
  obtain ⟨_, ht⟩ := h
  exact congrArg Prod.fst ht
/-! a test that runs is lost -/
theorem cf_Inv_lose {w : cf_Wd} {n N m g b : Nat} (hH : cf_Hi w N) (hs : w 10 16 = w 15 10) (h4 : (w 10 15 = 0 ∧ 2 * m ≤ n) ∨ (w 10 15 = 1 ∧ 2 * m + 1 ≤ n)) (h5 : cf_Se w N m g b) : cf_Inv (cf_wa (cf_wa w 10 (upd (w 10) 15 0)) 15 (upd (w 15) 9 0)) n := by
  refine ⟨N, ?_, ?_, Or.inr ⟨m, g, b, Or.inl ⟨?_, ?_⟩, ?_⟩⟩
  · unfold cf_Hi at hH ⊢
    simp only [cf_wa_s, cf_wa_n, pk_us, pk_un, ne_eq, Nat.reduceEqDiff, not_false_eq_true, reduceCtorEq]
    exact hH
  · simp only [cf_wa_s, cf_wa_n, pk_us, pk_un, ne_eq, Nat.reduceEqDiff, not_false_eq_true, reduceCtorEq]
    exact hs
  · simp only [cf_wa_s, cf_wa_n, pk_us, pk_un, ne_eq, Nat.reduceEqDiff, not_false_eq_true, reduceCtorEq]
  · rcases h4 with h4 | h4 <;> omega
  · have eV : cf_V (cf_wa (cf_wa w 10 (upd (w 10) 15 0)) 15 (upd (w 15) 9 0)) m = cf_V w m := by
      unfold cf_V
      simp only [cf_wa_s, cf_wa_n, pk_us, pk_un, ne_eq, Nat.reduceEqDiff, not_false_eq_true, reduceCtorEq]
    unfold cf_Se cf_In cf_Vt cf_tup at h5 ⊢
    rw [eV]
    simp only [cf_wa_s, cf_wa_n, pk_us, pk_un, ne_eq, Nat.reduceEqDiff, not_false_eq_true, reduceCtorEq]
    obtain ⟨⟨s5, s11, c5, s6, c7, s7, c8, s8, s9⟩, hgb, hrun, hj, hVt, htu, hIn⟩ := h5
    exact ⟨⟨s5, s11, c5, s6, c7, s7, c8, s8, trivial⟩, hgb, Or.inl trivial, hj, hVt, htu, hIn⟩
theorem tw_crash {w : cf_Wd} {n : Nat} (hn : n ≤ 512) (hI : cf_Inv w n) : cf_two F_C_crash F_P_crash [] w (n + 1) := by
  have hI0 := hI
  obtain ⟨N, hH, hs, hr⟩ := hI
  rcases hr with hr | ⟨m, g, b, h4, h5⟩
  · have h6 := cf_Nos_st hr
    obtain ⟨⟨a5, a9, b5, b15⟩, ht⟩ := hr
    have e : cf_wa w 10 (upd (w 10) 15 0) = w := cf_wa_id (by
      funext k
      unfold upd
      by_cases e : k = 15
      · rw [if_pos e, e, b15]
      · rw [if_neg e])
    refine ⟨0, w, w, cf_is (e_C_crash ?_), cf_is (e_P_crash ?_), cf_Inv_up hI0⟩
    · simp only [r_C_crash_0, r_C_crash_1, c_C_crash_4 sp_S_loseTest, r_C_crash_7, r_C_crash_8, r_C_crash_11, r_C_crash_14, r_C_crash_17, r_C_crash_18, r_C_crash_21, r_C_crash_22, e, h6, ↓reduceIte, and_self, true_or, true_and]
    · simp only [r_P_crash_0, r_P_crash_1, r_P_crash_4, r_P_crash_7, r_P_crash_8, r_P_crash_9, r_P_crash_10, r_P_crash_11, r_P_crash_14, r_P_crash_15, a5, not_true_eq_false, ↓reduceIte, and_self, true_or, true_and]
  · have h6 := cf_Se_st h5
    refine ⟨1, cf_wa w 10 (upd (w 10) 15 0), cf_wa (cf_wa w 10 (upd (w 10) 15 0)) 15 (upd (w 15) 9 0), cf_is (e_C_crash ?_), cf_is (e_P_crash ?_), cf_Inv_up (cf_Inv_lose hH hs h4 h5)⟩
    · simp only [r_C_crash_0, r_C_crash_1, c_C_crash_4 sp_S_loseTest, r_C_crash_7, r_C_crash_8, r_C_crash_11, r_C_crash_14, r_C_crash_17, r_C_crash_18, r_C_crash_21, r_C_crash_22, cf_wa_s, cf_wa_n, pk_us, pk_un, ne_eq, Nat.reduceEqDiff, not_false_eq_true, reduceCtorEq, h6, ↓reduceIte, and_self, or_true, true_and]
    · simp only [r_P_crash_0, r_P_crash_1, r_P_crash_4, r_P_crash_7, r_P_crash_8, r_P_crash_9, r_P_crash_10, r_P_crash_11, r_P_crash_14, r_P_crash_15, cf_wa_s, cf_wa_n, pk_us, pk_un, ne_eq, Nat.reduceEqDiff, not_false_eq_true, reduceCtorEq, h5.1.1, cf_q_0_1, cf_q_0_2, cf_q_0_3, cf_q_0_4, cf_q_0_5, cf_q_0_6, cf_q_0_7, cf_q_0_8, cf_q_0_9, cf_q_1_0, cf_q_1_2, cf_q_1_3, cf_q_1_4, cf_q_1_5, cf_q_1_6, cf_q_1_7, cf_q_1_8, cf_q_1_9, cf_q_2_0, cf_q_2_1, cf_q_2_3, cf_q_2_4, cf_q_2_5, cf_q_2_6, cf_q_2_7, cf_q_2_8, cf_q_2_9, cf_q_3_0, cf_q_3_1, cf_q_3_2, cf_q_3_4, cf_q_3_5, cf_q_3_6, cf_q_3_7, cf_q_3_8, cf_q_3_9, cf_q_4_0, cf_q_4_1, cf_q_4_2, cf_q_4_3, cf_q_4_5, cf_q_4_6, cf_q_4_7, cf_q_4_8, cf_q_4_9, cf_q_5_0, cf_q_5_1, cf_q_5_2, cf_q_5_3, cf_q_5_4, cf_q_5_6, cf_q_5_7, cf_q_5_8, cf_q_5_9, cf_q_6_0, cf_q_6_1, cf_q_6_2, cf_q_6_3, cf_q_6_4, cf_q_6_5, cf_q_6_7, cf_q_6_8, cf_q_6_9, cf_q_7_0, cf_q_7_1, cf_q_7_2, cf_q_7_3, cf_q_7_4, cf_q_7_5, cf_q_7_6, cf_q_7_8, cf_q_7_9, cf_q_8_0, cf_q_8_1, cf_q_8_2, cf_q_8_3, cf_q_8_4, cf_q_8_5, cf_q_8_6, cf_q_8_7, cf_q_8_9, cf_q_9_0, cf_q_9_1, cf_q_9_2, cf_q_9_3, cf_q_9_4, cf_q_9_5, cf_q_9_6, cf_q_9_7, cf_q_9_8, not_false_eq_true, ↓reduceIte, cf_z0, and_self, or_true, true_and]
/-! end -/
theorem cf_Inv_end {w : cf_Wd} {n N : Nat} (hH : cf_Hi w N) (hs : w 10 16 = w 15 10) : cf_Inv (cf_wa (cf_closed w) 15 (upd (upd (w 15) 5 0) 9 0)) n := by
  refine ⟨N, ?_, ?_, Or.inl ?_⟩
  · unfold cf_Hi cf_closed at *
    simp only [cf_wa_s, cf_wa_n, pk_us, pk_un, ne_eq, Nat.reduceEqDiff, not_false_eq_true, reduceCtorEq]
    exact hH
  · unfold cf_closed cf_cls0
    simp only [cf_wa_s, cf_wa_n, pk_us, pk_un, ne_eq, Nat.reduceEqDiff, not_false_eq_true, reduceCtorEq]
    exact hs
  · unfold cf_Nos cf_closed cf_cls0 cf_tup
    simp only [cf_wa_s, cf_wa_n, pk_us, pk_un, ne_eq, Nat.reduceEqDiff, not_false_eq_true, reduceCtorEq, and_self]
theorem tw_end {w : cf_Wd} {n : Nat} (hn : n ≤ 512) (hI : cf_Inv w n) : cf_two F_C_end F_P_end [] w (n + 1) := by
  have hI0 := hI
  obtain ⟨N, hH, hs, hr⟩ := hI
  rcases hr with hr | ⟨m, g, b, h4, h5⟩
  · have h6 := cf_Nos_st hr
    obtain ⟨⟨a5, a9, b5, b15⟩, ht⟩ := hr
    have e : cf_wa w 15 (upd (upd (w 15) 5 0) 9 0) = w := cf_wa_id (by
      funext k
      unfold upd
      by_cases e : k = 9
      · rw [if_pos e, e, a9]
      · rw [if_neg e]
        by_cases e2 : k = 5
        · rw [if_pos e2, e2, a5]
        · rw [if_neg e2])
    refine ⟨0, w, w, cf_is (e_C_end ?_), cf_is (e_P_end ?_), cf_Inv_up hI0⟩
    · simp only [r_C_end_0, r_C_end_1, r_C_end_4, r_C_end_7, r_C_end_10, r_C_end_11, r_C_end_12, r_C_end_13, r_C_end_16, r_C_end_19, r_C_end_20, h6, not_true_eq_false, ↓reduceIte, and_self, true_or, true_and]
    · simp only [r_P_end_0, r_P_end_1, r_P_end_4, r_P_end_5, r_P_end_6, r_P_end_7, r_P_end_10, r_P_end_11, r_P_end_12, r_P_end_15, r_P_end_16, a5, cf_z0, cf_wa_s, cf_wa_n, pk_us, pk_un, ne_eq, Nat.reduceEqDiff, not_false_eq_true, reduceCtorEq, cf_wa_wa, e, and_self, true_or, true_and]
  · have h6 := cf_Se_st h5
    refine ⟨1, cf_closed w, cf_wa (cf_closed w) 15 (upd (upd (w 15) 5 0) 9 0), cf_is (e_C_end ?_), cf_is (e_P_end ?_), cf_Inv_up (cf_Inv_end hH hs)⟩
    · simp only [r_C_end_0, r_C_end_1, r_C_end_4, r_C_end_7, r_C_end_10, r_C_end_11, r_C_end_12, r_C_end_13, c_C_end_16 (sp_S_close), r_C_end_19, r_C_end_20, h6, not_false_eq_true, ↓reduceIte, and_self, or_true, true_and]
    · have e15 : cf_closed w 15 = w 15 := by
        unfold cf_closed
        simp only [cf_wa_s, cf_wa_n, pk_us, pk_un, ne_eq, Nat.reduceEqDiff, not_false_eq_true, reduceCtorEq]
      simp only [r_P_end_0, r_P_end_1, r_P_end_4, r_P_end_5, r_P_end_6, r_P_end_7, r_P_end_10, r_P_end_11, r_P_end_12, r_P_end_15, r_P_end_16, e15, h5.1.1, cf_z0, cf_wa_s, cf_wa_n, pk_us, pk_un, ne_eq, Nat.reduceEqDiff, not_false_eq_true, reduceCtorEq, cf_wa_wa, and_self, or_true, true_and]
/-! what the next test can be -/
theorem cf_rd_nx {V : Int32 → Int32} : ∀ f s n, s < 256 → 2 ≤ n → n ≤ 8 → (n ≤ cf_pop s ∨ cf_pop s ≤ 1) → (cf_rd V f s n).1 = -1 ∨ ∃ t, t < 256 ∧ (cf_rd V f s n).1 = nI t ∧ V (1000 + nI t) = 0 := by
  intro f
  have h8 := cf_pop8
  induction f with
  | zero => intro s n _ _ _ _; exact Or.inl rfl
  | succ f ih =>
    intro s n hs hn2 hn8 hns
    have hp8 := h8 s hs
    by_cases hp1 : cf_pop s ≤ 1
    · rw [cf_rd_1 hp1]
      exact Or.inl rfl
    · have hnp : n ≤ cf_pop s := by omega
      have hK := fun rest i (hi : i < n) => cf_pKs hs hn2 hnp hi rest
      cases hfa : cf_ff V (nI s) (nI n) false n 0 with
      | some j =>
        obtain ⟨⟨_, hj⟩, hv⟩ := cf_ff_i _ _ _ hfa
        obtain ⟨t, t1, t2, t3, t4, _⟩ := hK false j (by omega)
        rw [cf_rd_a hp1 hfa, t3, cf_nIt t1]
        by_cases hv0 : V (1000 + nI t) = 0
        · rw [if_pos hv0]
          exact Or.inr ⟨t, t1, rfl, hv0⟩
        · rw [if_neg hv0]
          exact ih t 2 t1 (by omega) (by omega) (by omega)
      | none =>
        cases hfb : cf_ff V (nI s) (nI n) true n 0 with
        | some j =>
          obtain ⟨⟨_, hj⟩, hv⟩ := cf_ff_i _ _ _ hfb
          obtain ⟨t, t1, t2, t3, t4, t5⟩ := hK true j (by omega)
          have := t5 rfl
          rw [cf_rd_b hp1 hfa hfb, t3, cf_nIt t1]
          by_cases hv0 : V (1000 + nI t) = 0
          · rw [if_pos hv0]
            exact Or.inr ⟨t, t1, rfl, hv0⟩
          · rw [if_neg hv0]
            exact ih t (max (n - 1) 2) t1 (by omega) (by omega) (by omega)
        | none =>
          rw [cf_rd_c hp1 hfa hfb]
          by_cases hns2 : cf_pop s ≤ n
          · rw [if_pos hns2]
            exact Or.inl rfl
          · rw [if_neg hns2]
            exact ih s (min (2 * n) (cf_pop s)) hs (by omega) (by omega) (by omega)
theorem cf_hv_nx {A : Nat → Int32} {N : Nat} {V : Int32 → Int32} (hN : N ≤ 14) : ∀ f wo T S, (cf_hv A N V f wo T S).2.1 = -1 ∨ ∃ c, c < N ∧ (cf_hv A N V f wo T S).2.1 = nI c ∧ V (nI c) = 0 := by
  intro f
  induction f with
  | zero => intro wo T S; exact Or.inl rfl
  | succ f ih =>
    intro wo T S
    rcases cf_mid_c (A := A) (S := S) (T := T) (wo := wo) hN with e | ⟨c, hc, e, _⟩
    · by_cases h2 : S = 1 <<< (nI wo &&& 31)
      · rw [cf_hv_a e h2]
        exact Or.inl rfl
      · rw [cf_hv_b e h2]
        exact Or.inl rfl
    · by_cases h0 : V (nI c) = 0
      · rw [cf_hv_c0 (by omega) e h0]
        exact Or.inr ⟨c, hc, rfl, h0⟩
      · rw [cf_hv_cs (by omega) e h0]
        exact ih _ _ _
theorem cf_tl_nx {Fi Li : Nat → Int32} {V : Int32 → Int32} {R : Nat → Int32 × Int32} {h : Int32 × Int32 × Int32 × Int32} {N : Nat} (hN : N ≤ 14) (h1 : h.2.1 = -1 ∨ ∃ c, c < N ∧ h.2.1 = nI c ∧ V (nI c) = 0) (h3 : h.1 = 3 → ∃ c, c < N ∧ h.2.2.2 = nI c ∧ h.2.1 = -1) (hF : ∀ c, c < N → Fi c = -1 ∨ ∃ p, p < N ∧ Fi c = nI p) (hR : ∀ s, s < 256 → (R s).1 = -1 ∨ ∃ t, t < 256 ∧ (R s).1 = nI t ∧ V (1000 + nI t) = 0) : (cf_tl Fi Li V R h).2.1 = -1 ∨ (∃ c, c < N ∧ (cf_tl Fi Li V R h).2.1 = nI c ∧ V (nI c) = 0) ∨ ∃ s c p, s < 256 ∧ (cf_tl Fi Li V R h).2.1 = nI (1000 + s) ∧ V (nI (1000 + s)) = 0 ∧ (cf_tl Fi Li V R h).1 = 3 ∧ c < N ∧ p < N ∧ (cf_tl Fi Li V R h).2.2.2.1 = nI c ∧ Fi c = nI p ∧ V (nI p) = 1 := by
  obtain ⟨st, nx, S, cu⟩ := h
  by_cases hst : st = 3
  · obtain ⟨c, hc, ec, en⟩ := h3 hst
    have ec : cu = nI c := ec
    have en : nx = -1 := en
    subst ec
    subst en
    subst hst
    have hc14 : c < 14 := by omega
    rcases hF c hc with hp | ⟨p, hp, ep⟩
    · rw [cf_tl_0 hc14 hp]
      exact Or.inl rfl
    · have hp14 : p < 14 := by omega
      by_cases v0 : V (nI p) = 0
      · rw [cf_tl_1 hc14 hp14 ep v0]
        exact Or.inr (Or.inl ⟨p, hp, rfl, v0⟩)
      · by_cases v1 : V (nI p) = 1
        · obtain ⟨s, hs, es⟩ := cf_chg_256 (f := Li) (n := c) (m := p)
          rw [cf_tl_3 hc14 hp14 ep v1 hs es]
          rcases hR s hs with hr | ⟨t, ht, hr, hv⟩
          · refine Or.inl ?_
            show (if (R s).1 = -1 then (-1 : Int32) else 1000 + (R s).1) = -1
            rw [if_pos hr]
          · have nm : ¬ nI t = -1 := by rw [cf_m1 (by omega)]; exact id
            refine Or.inr (Or.inr ⟨t, c, p, ht, ?_, ?_, ?_, hc, hp, rfl, ep, v1⟩)
            · show (if (R s).1 = -1 then (-1 : Int32) else 1000 + (R s).1) = nI (1000 + t)
              rw [hr, if_neg nm, cf_k1]
            · rw [← cf_k1]
              exact hv
            · show (if (R s).1 = -1 then (4 : Int32) else 3) = 3
              rw [hr, if_neg nm]
        · rw [cf_tl_2 hc14 hp14 ep v0 v1]
          exact Or.inl rfl
  · rw [cf_tl_n hst]
    rcases h1 with h1 | ⟨c, hc, e, hv⟩
    · exact Or.inl h1
    · exact Or.inr (Or.inl ⟨c, hc, e, hv⟩)
theorem cf_wk_nx {A Fi Li : Nat → Int32} {N g b : Nat} {V : Int32 → Int32} (hN : N ≤ 14) (hg : g < N) (hb : b < N) (hF : ∀ c, c < N → Fi c = -1 ∨ ∃ p, p < N ∧ Fi c = nI p) : (cf_wk A Fi Li N g b V).2.1 = -1 ∨ (∃ c, c < N ∧ (cf_wk A Fi Li N g b V).2.1 = nI c ∧ V (nI c) = 0) ∨ ∃ s c p, s < 256 ∧ (cf_wk A Fi Li N g b V).2.1 = nI (1000 + s) ∧ V (nI (1000 + s)) = 0 ∧ (cf_wk A Fi Li N g b V).1 = 3 ∧ c < N ∧ p < N ∧ (cf_wk A Fi Li N g b V).2.2.2.1 = nI c ∧ Fi c = nI p ∧ V (nI p) = 1 := by
  by_cases b0 : V (nI b) = 0
  · rw [cf_wk_b0 b0]
    exact Or.inr (Or.inl ⟨b, hb, rfl, b0⟩)
  · by_cases b2 : V (nI b) = 2
    · by_cases g0 : V (nI g) = 0
      · rw [cf_wk_g0 b2 g0]
        exact Or.inr (Or.inl ⟨g, hg, rfl, g0⟩)
      · by_cases g1 : V (nI g) = 1
        · rw [cf_wk_h b2 g1]
          exact cf_tl_nx hN (cf_hv_nx hN _ _ _ _) (cf_hv_c hN _ _ _ _ hb) hF (fun s hs => cf_rd_nx 64 s 2 hs (by omega) (by omega) (by omega))
        · rw [cf_wk_g6 b2 g0 g1]
          exact Or.inl rfl
    · rw [cf_wk_b6 b0 b2]
      exact Or.inl rfl
/-- the next test, as the class has it -/
theorem cf_Se_nx {w : cf_Wd} {N m g b : Nat} (hH : cf_Hi w N) (h : cf_Se w N m g b) : w 10 14 = -1 ∨ (∃ c, c < N ∧ w 10 14 = nI c ∧ cf_V w m (nI c) = 0) ∨ ∃ s c p, s < 256 ∧ w 10 14 = nI (1000 + s) ∧ cf_V w m (nI (1000 + s)) = 0 ∧ w 10 6 = 3 ∧ c < N ∧ p < N ∧ w 10 13 = nI c ∧ w 2 c = nI p ∧ cf_V w m (nI p) = 1 := by
  obtain ⟨_, ⟨hg, hb, hgb⟩, _, _, _, htu, _⟩ := h
  have Hp := hH.Hp
  have := cf_wk_nx (A := w 3) (Fi := w 2) (Li := w 4) (V := cf_V w m) Hp.1 hg hb Hp.2.2.1
  rw [← htu] at this
  exact this
/-! start -/
theorem tw_start {w : cf_Wd} {n : Nat} (hn : n ≤ 512) (hI : cf_Inv w n) : cf_two F_C_start F_P_start [] w (n + 1) := by
  have hst := sp_S_startTest (w := w)
  have hno : (w 10 14 = -1 ∨ ¬ w 10 15 = 0) → (w 10 14 < 0 ∨ ¬ w 15 9 = 0) → cf_two F_C_start F_P_start [] w (n + 1) := by
    intro hc hp
    obtain ⟨f', hW, ⟨h18, h19, h20, h21, h22⟩, hfr⟩ := cf_Inv_work hn hI
    have f9 : f' 9 = w 15 9 := hfr 9 (by decide) (by decide) (by decide) (by decide) (by decide)
    rw [if_pos hc] at hst
    refine ⟨0, w, cf_wa w 15 f', cf_is (e_C_start ?_), cf_is (e_P_start ?_), cf_Inv_up (cf_Inv_15 hfr hI)⟩
    · simp only [r_C_start_0, r_C_start_1, c_C_start_4 (hst), r_C_start_7, and_self, true_or, true_and]
    · by_cases h1 : w 10 14 < 0
      · simp only [r_P_start_0, c_P_start_1 (hW), r_P_start_4, r_P_start_5, r_P_start_8, r_P_start_11, r_P_start_12, r_P_start_15, r_P_start_18, r_P_start_19, r_P_start_20, r_P_start_21, r_P_start_22, r_P_start_25, r_P_start_26, r_P_start_27, r_P_start_30, r_P_start_31, r_P_start_32, r_P_start_35, r_P_start_36, cf_wa_s, cf_wa_n, pk_us, pk_un, ne_eq, Nat.reduceEqDiff, not_false_eq_true, reduceCtorEq, h19, h1, ↓reduceIte, and_self, true_or, true_and]
      · have h2 : ¬ w 15 9 = 0 := by
          rcases hp with hp | hp
          · exact absurd hp h1
          · exact hp
        simp only [r_P_start_0, c_P_start_1 (hW), r_P_start_4, r_P_start_5, r_P_start_8, r_P_start_11, r_P_start_12, r_P_start_15, r_P_start_18, r_P_start_19, r_P_start_20, r_P_start_21, r_P_start_22, r_P_start_25, r_P_start_26, r_P_start_27, r_P_start_30, r_P_start_31, r_P_start_32, r_P_start_35, r_P_start_36, cf_wa_s, cf_wa_n, pk_us, pk_un, ne_eq, Nat.reduceEqDiff, not_false_eq_true, reduceCtorEq, h19, h1, f9, h2, ↓reduceIte, and_self, true_or, true_and]
  have hI0 := hI
  obtain ⟨N, hH, hs, hr⟩ := hI
  rcases hr with hr | ⟨m, g, b, h4, h5⟩
  · obtain ⟨⟨a5, a9, b5, b15⟩, ht⟩ := hr
    unfold cf_tup at ht
    simp only [Prod.mk.injEq] at ht
    refine hno (Or.inl ht.2.1) (Or.inl ?_)
    rw [ht.2.1]
    decide
  · have hnx := cf_Se_nx hH h5
    have h5' := h5
    obtain ⟨⟨s5, s11, c5, s6, c7, s7, c8, s8, s9⟩, hgb, hrun, hj, hVt, htu, hIn⟩ := h5
    by_cases h1 : w 10 14 = -1
    · refine hno (Or.inl h1) (Or.inl ?_)
      rw [h1]
      decide
    · by_cases h2 : w 10 15 = 0
      · have hN := hH.1.1
        have hge : ¬ w 10 14 < 0 := by
          rcases hnx with h | ⟨c, hc, e, _⟩ | ⟨s, c, p, hs', e, _⟩
          · exact absurd h h1
          · rw [e]
            exact nI_pos (by omega)
          · rw [e]
            exact nI_pos (by omega)
        rw [if_neg (fun x => x.elim h1 (fun y => y h2))] at hst
        have g9 : w 15 9 = 0 := s9.trans h2
        have hC : F_C_start [.inr 0] w = some (some (.inl 1), cf_wa w 10 (upd (upd (w 10) 15 1) 16 (w 10 16 + 1))) := by
          refine cf_is (e_C_start ?_)
          simp only [r_C_start_0, r_C_start_1, c_C_start_4 (hst), r_C_start_7, and_self, or_true, true_and]
        obtain ⟨f', hW, ⟨h18, h19, h20, h21, h22⟩, hfr⟩ := cf_Inv_workG (w1 := cf_wa w 10 (upd (upd (w 10) 15 1) 16 (w 10 16 + 1))) hn hI0 (fun k hk => cf_wa_n _ _ (by omega))
        have f9 : f' 9 = 0 := (hfr 9 (by decide) (by decide) (by decide) (by decide) (by decide)).trans g9
        have f10 : f' 10 = w 15 10 := hfr 10 (by decide) (by decide) (by decide) (by decide) (by decide)
        refine ⟨1, _, cf_wa (cf_wa w 10 (upd (upd (w 10) 15 1) 16 (w 10 16 + 1))) 15 (upd (upd f' 9 1) 10 (w 15 10 + 1)), hC, cf_is (e_P_start ?_), ?_⟩
        · simp only [r_P_start_0, c_P_start_1 (hW), r_P_start_4, r_P_start_5, r_P_start_8, r_P_start_11, r_P_start_12, r_P_start_15, r_P_start_18, r_P_start_19, r_P_start_20, r_P_start_21, r_P_start_22, r_P_start_25, r_P_start_26, r_P_start_27, r_P_start_30, r_P_start_31, r_P_start_32, r_P_start_35, r_P_start_36, cf_wa_s, cf_wa_n, pk_us, pk_un, ne_eq, Nat.reduceEqDiff, not_false_eq_true, reduceCtorEq, cf_wa_wa, h19, hge, f9, f10, cf_z1, ↓reduceIte, and_self, or_true, true_and]
        · have hm : 2 * m ≤ n := by
            rcases h4 with h4 | h4
            · exact h4.2
            · rw [h2] at h4
              exact absurd h4.1 (by decide)
          have k0 := hfr 0 (by decide) (by decide) (by decide) (by decide) (by decide)
          have k5 := hfr 5 (by decide) (by decide) (by decide) (by decide) (by decide)
          have k6 := hfr 6 (by decide) (by decide) (by decide) (by decide) (by decide)
          have k7 := hfr 7 (by decide) (by decide) (by decide) (by decide) (by decide)
          have k8 := hfr 8 (by decide) (by decide) (by decide) (by decide) (by decide)
          have k11 := hfr 11 (by decide) (by decide) (by decide) (by decide) (by decide)
          refine ⟨N, ?_, ?_, Or.inr ⟨m, g, b, Or.inr ⟨?_, by omega⟩, ?_⟩⟩
          · unfold cf_Hi at hH ⊢
            simp only [cf_wa_s, cf_wa_n, pk_us, pk_un, ne_eq, Nat.reduceEqDiff, not_false_eq_true, reduceCtorEq, k0]
            exact hH
          · simp only [cf_wa_s, cf_wa_n, pk_us, pk_un, ne_eq, Nat.reduceEqDiff, not_false_eq_true, reduceCtorEq]
            rw [hs]
          · simp only [cf_wa_s, cf_wa_n, pk_us, pk_un, ne_eq, Nat.reduceEqDiff, not_false_eq_true, reduceCtorEq]
          · have eV : cf_V (cf_wa (cf_wa w 10 (upd (upd (w 10) 15 1) 16 (w 10 16 + 1))) 15 (upd (upd f' 9 1) 10 (w 15 10 + 1))) m = cf_V w m := by
              unfold cf_V
              simp only [cf_wa_s, cf_wa_n, pk_us, pk_un, ne_eq, Nat.reduceEqDiff, not_false_eq_true, reduceCtorEq]
            unfold cf_Se cf_In cf_Vt cf_tup at h5' ⊢
            rw [eV]
            simp only [cf_wa_s, cf_wa_n, pk_us, pk_un, ne_eq, Nat.reduceEqDiff, not_false_eq_true, reduceCtorEq, k5, k6, k7, k8, k11]
            obtain ⟨_, hgb, _, hj, hVt, htu, hIn⟩ := h5'
            exact ⟨⟨s5, s11, c5, s6, c7, s7, c8, s8, trivial⟩, hgb, Or.inr ⟨trivial, h1⟩, hj, hVt, htu, hIn⟩
      · exact hno (Or.inr h2) (Or.inr (by rw [s9]; exact h2))
