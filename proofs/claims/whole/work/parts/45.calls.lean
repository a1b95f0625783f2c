/-! numbers of commits and lines -/
theorem cf_inn_has {w : cf_Wd} {N : Nat} {c : Int32} (hN : N ≤ 14) (h1 : w 1 4 = nI N) (h2 : w 15 0 = nI N) : cf_inn c 0 (w 15 0 - 1) = cf_has w c := by
  unfold cf_inn cf_has
  rw [h1, h2]
  have e : (nI N - 1 < c) = (nI N ≤ c) := by
    apply propext
    rw [Int32.lt_iff_toInt_lt, Int32.le_iff_toInt_le, nI_toInt (by omega)]
    have e2 : (nI N - 1).toInt = (N : Int) - 1 := by
      cases N with
      | zero => decide +kernel
      | succ k =>
        rw [nI_pred, nI_toInt (by omega)]
        omega
    rw [e2]
    omega
  simp only [e]
theorem cf_has_of {w : cf_Wd} {N : Nat} {c : Int32} (hN : N ≤ 14) (h1 : w 1 4 = nI N) (h : cf_has w c = true) : ∃ k, k < N ∧ c = nI k := by
  unfold cf_has at h
  rw [Bool.and_eq_true, Bool.not_eq_true', Bool.not_eq_true', decide_eq_false_iff_not, decide_eq_false_iff_not] at h
  obtain ⟨j, hj, e⟩ := nI_of h.1
  subst e
  rw [h1, nI_leI (by omega) hj] at h
  exact ⟨j, by omega, rfl⟩
theorem cf_inn7 (l : Int32) : cf_inn l 0 7 = (!decide (l < 0) && !decide (8 ≤ l)) := by
  unfold cf_inn
  have e : ((7 : Int32) < l) = ((8 : Int32) ≤ l) := by
    apply propext
    rw [Int32.lt_iff_toInt_lt, Int32.le_iff_toInt_le]
    have e7 : (7 : Int32).toInt = 7 := by decide +kernel
    have e8 : (8 : Int32).toInt = 8 := by decide +kernel
    rw [e7, e8]
    omega
  simp only [e]
theorem cf_line_of {l : Int32} (h : (!decide (l < 0) && !decide (8 ≤ l)) = true) : ∃ k, k < 8 ∧ l = nI k := by
  rw [Bool.and_eq_true, Bool.not_eq_true', Bool.not_eq_true', decide_eq_false_iff_not, decide_eq_false_iff_not] at h
  obtain ⟨j, hj, e⟩ := nI_of h.1
  subst e
  have e8 : (8 : Int32) = nI 8 := by decide +kernel
  rw [e8, nI_leI (by omega) hj] at h
  exact ⟨j, by omega, rfl⟩
/-! line -/
theorem tw_line {w : cf_Wd} {n : Nat} {c l : Int32} (hn : n ≤ 512) (hI : cf_Inv w n) : cf_two F_C_line F_P_line [.inl c, .inl l] w (n + 1) := by
  have hI0 := hI
  obtain ⟨N, hH, hs, hr⟩ := hI
  obtain ⟨⟨hN, h14, h150⟩, ⟨e2, e3, e4⟩, hF, hA, hP, hcd, hsc⟩ := hH
  cases h0 : cf_has w c
  · refine ⟨-1, w, w, cf_is (e_C_line ?_), cf_is (e_P_line ?_), cf_Inv_up hI0⟩
    · simp only [r_C_line_0, r_C_line_1, r_C_line_4, r_C_line_5, c_C_line_6 sp_H_hasLine, r_C_line_9, r_C_line_12, r_C_line_13, r_C_line_16, r_C_line_17, r_C_line_18, r_C_line_21, r_C_line_24, r_C_line_25, cf_hl, h0, Bool.false_and, cf_b_e0, ↓reduceIte, and_self]
    · simp only [r_P_line_0, r_P_line_1, c_P_line_2 sp_P_isCommit, r_P_line_5, r_P_line_8, r_P_line_9, r_P_line_10, c_P_line_12 sp_P_in, r_P_line_15, r_P_line_18, r_P_line_19, r_P_line_22, r_P_line_24, r_P_line_25, r_P_line_26, r_P_line_27, r_P_line_28, r_P_line_29, r_P_line_32, r_P_line_33, cf_inn_has hN h14 h150, h0, cf_b_e0, ↓reduceIte, and_self]
  · cases h1 : (!decide (l < 0) && !decide (8 ≤ l))
    · refine ⟨-1, w, w, cf_is (e_C_line ?_), cf_is (e_P_line ?_), cf_Inv_up hI0⟩
      · simp only [r_C_line_0, r_C_line_1, r_C_line_4, r_C_line_5, c_C_line_6 sp_H_hasLine, r_C_line_9, r_C_line_12, r_C_line_13, r_C_line_16, r_C_line_17, r_C_line_18, r_C_line_21, r_C_line_24, r_C_line_25, cf_hl, h0, h1, Bool.and_false, cf_b_e0, ↓reduceIte, and_self]
      · simp only [r_P_line_0, r_P_line_1, c_P_line_2 sp_P_isCommit, r_P_line_5, r_P_line_8, r_P_line_9, r_P_line_10, c_P_line_12 sp_P_in, r_P_line_15, r_P_line_18, r_P_line_19, r_P_line_22, r_P_line_24, r_P_line_25, r_P_line_26, r_P_line_27, r_P_line_28, r_P_line_29, r_P_line_32, r_P_line_33, cf_inn_has hN h14 h150, h0, cf_inn7, h1, cf_b_e0, reduceCtorEq, ↓reduceIte, and_self]
    · obtain ⟨k, hk, rfl⟩ := cf_has_of hN h14 h0
      obtain ⟨q, hq, rfl⟩ := cf_line_of h1
      have hb : 8 * k + q < 112 := by omega
      refine ⟨w 4 (8 * k + q), w, w, cf_is (e_C_line ?_), cf_is (e_P_line ?_), cf_Inv_up hI0⟩
      · simp only [r_C_line_0, r_C_line_1, r_C_line_4, r_C_line_5, c_C_line_6 sp_H_hasLine, r_C_line_9, r_C_line_12, r_C_line_13, r_C_line_16, r_C_line_17, c_C_line_18 (sp_H_codeAt hb), r_C_line_21, r_C_line_24, r_C_line_25, cf_hl, h0, h1, Bool.and_true, cf_b_e0, reduceCtorEq, ↓reduceIte, and_self]
      · simp only [r_P_line_0, r_P_line_1, c_P_line_2 sp_P_isCommit, r_P_line_5, r_P_line_8, r_P_line_9, r_P_line_10, c_P_line_12 sp_P_in, r_P_line_15, r_P_line_18, r_P_line_19, r_P_line_22, r_P_line_24, r_P_line_25, r_P_line_26, r_P_line_27, r_P_line_28, r_P_line_29, r_P_line_32, r_P_line_33, cf_inn_has hN h14 h150, h0, cf_inn7, h1, cf_b_e0, reduceCtorEq, ↓reduceIte, cf_8c, cf_in_nI hb (by decide), nI_clamp (show 8 * k + q < 2 ^ 31 by omega), true_and, e4, and_self]
/-! verdict -/
theorem tw_verdict {w : cf_Wd} {n : Nat} {c x : Int32} (hn : n ≤ 512) (hI : cf_Inv w n) : cf_two F_C_verdict F_P_verdict [.inl c, .inl x] w (n + 1) := by
  have hI0 := hI
  obtain ⟨N, hH, hs, hr⟩ := hI
  obtain ⟨⟨hN, h14, h150⟩, ⟨e2, e3, e4⟩, hF, hA, hP, ⟨hcd, hz⟩, h6, h22, h24⟩ := hH
  cases h0 : cf_has w c
  · refine ⟨0, w, w, cf_is (e_C_verdict ?_), cf_is (e_P_verdict ?_), cf_Inv_up hI0⟩
    · simp only [r_C_verdict_0, r_C_verdict_1, r_C_verdict_4, c_C_verdict_5 sp_H_has, r_C_verdict_8, r_C_verdict_11, r_C_verdict_12, r_C_verdict_13, r_C_verdict_14, r_C_verdict_17, r_C_verdict_18, r_C_verdict_21, r_C_verdict_22, r_C_verdict_25, r_C_verdict_26, r_C_verdict_29, r_C_verdict_30, r_C_verdict_33, h0, cf_b_e0, not_true_eq_false, ↓reduceIte, and_self]
    · simp only [r_P_verdict_0, r_P_verdict_1, c_P_verdict_2 sp_P_isCommit, r_P_verdict_5, r_P_verdict_8, r_P_verdict_9, r_P_verdict_10, r_P_verdict_11, r_P_verdict_12, r_P_verdict_15, r_P_verdict_16, r_P_verdict_17, r_P_verdict_20, cf_inn_has hN h14 h150, h0, cf_b_e0, not_true_eq_false, ↓reduceIte, and_self]
  · obtain ⟨k, hk, rfl⟩ := cf_has_of hN h14 h0
    have hk14 : k < 14 := by omega
    have hl := sp_M_load (w := w) hk14
    rw [cf_ld_C h6] at hl
    obtain ⟨r, w1, hj, hv, hfr⟩ := sp_M_judge (w := cf_wa w 6 (cf_prC (w 4) k)) (x := x) (by simp only [cf_wa_s, cf_wa_n, pk_us, pk_un, ne_eq, Nat.reduceEqDiff, not_false_eq_true, reduceCtorEq]; exact cf_prC_cd (fun j _ => hcd _))
    simp only [cf_wa_s, cf_wa_n, pk_us, pk_un, ne_eq, Nat.reduceEqDiff, not_false_eq_true, reduceCtorEq] at hv
    have hC : F_C_verdict [.inr 0, .inl (nI k), .inl x] w = some (some (.inl r), w1) := by
      refine cf_is (e_C_verdict ?_)
      simp only [r_C_verdict_0, r_C_verdict_1, r_C_verdict_4, c_C_verdict_5 sp_H_has, r_C_verdict_8, r_C_verdict_11, r_C_verdict_12, r_C_verdict_13, r_C_verdict_14, r_C_verdict_17, r_C_verdict_18, r_C_verdict_21, c_C_verdict_22 (hl), r_C_verdict_25, r_C_verdict_26, r_C_verdict_29, c_C_verdict_30 (hj), r_C_verdict_33, h0, cf_b_e0, reduceCtorEq, not_false_eq_true, ↓reduceIte, and_self]
    have fr1 : ∀ i, i ≠ 6 → i ≠ 7 → i ≠ 8 → i ≠ 9 → w1 i = w i := fun i i6 i7 i8 i9 => (hfr i i7 i8 i9).trans (cf_wa_n _ _ i6)
    have w16 : w1 6 = cf_prC (w 4) k := (hfr 6 (by decide) (by decide) (by decide)).trans (cf_wa_s _ _ _)
    have g22 : w1 22 = w 22 := fr1 22 (by decide) (by decide) (by decide) (by decide)
    have g24 : w1 24 = w 24 := fr1 24 (by decide) (by decide) (by decide) (by decide)
    have g18 : w1 18 = w 4 := (fr1 18 (by decide) (by decide) (by decide) (by decide)).trans e4.symm
    have g15 : w1 15 = w 15 := fr1 15 (by decide) (by decide) (by decide) (by decide)
    have g1 : w1 1 = w 1 := fr1 1 (by decide) (by decide) (by decide) (by decide)
    have hl2 := sp_P_load (w := w1) hk14
    rw [cf_pl_C (by rw [g22]; exact h22), g18] at hl2
    obtain ⟨r2, w2, hj2, hv2, hb2, hfr2⟩ := sp_P_run (w := cf_wa w1 22 (cf_prC (w 4) k)) (x := x) (by simp only [cf_wa_s, cf_wa_n, pk_us, pk_un, ne_eq, Nat.reduceEqDiff, not_false_eq_true, reduceCtorEq]; exact cf_prC_cd (fun j _ => hcd _)) (by simp only [cf_wa_s, cf_wa_n, pk_us, pk_un, ne_eq, Nat.reduceEqDiff, not_false_eq_true, reduceCtorEq, g24]; exact h24)
    simp only [cf_wa_s, cf_wa_n, pk_us, pk_un, ne_eq, Nat.reduceEqDiff, not_false_eq_true, reduceCtorEq] at hv2
    have er : r2 = r := cf_vd_fn hv2 hv
    subst er
    refine ⟨r2, w1, w2, hC, cf_is (e_P_verdict ?_), cf_Inv_up ?_⟩
    · have hh : cf_inn (nI k) 0 (w1 15 0 - 1) = true := by
        rw [g15, cf_inn_has hN h14 h150]
        exact h0
      simp only [r_P_verdict_0, r_P_verdict_1, c_P_verdict_2 sp_P_isCommit, r_P_verdict_5, r_P_verdict_8, r_P_verdict_9, r_P_verdict_10, r_P_verdict_11, c_P_verdict_12 (hl2), r_P_verdict_15, r_P_verdict_16, c_P_verdict_17 (hj2), r_P_verdict_20, hh, cf_b_e0, reduceCtorEq, not_false_eq_true, ↓reduceIte, and_self]
    · refine cf_Inv_same (w := w) (fun i i6 i7 i8 i9 i15 i22 i23 i24 i25 => ?_) (fun _ => ?_) (fun _ => ?_) (fun _ => hb2) (fun i _ => ?_) hI0
      · rw [hfr2 i i23 i24 i25, cf_wa_n _ _ i22]
        exact fr1 i i6 i7 i8 i9
      · rw [hfr2 6 (by decide) (by decide) (by decide), cf_wa_n _ _ (by decide), w16]
        intro j hj
        unfold cf_prC
        rw [if_neg (by omega)]
      · rw [hfr2 22 (by decide) (by decide) (by decide), cf_wa_s]
        intro j hj
        unfold cf_prC
        rw [if_neg (by omega)]
      · rw [hfr2 15 (by decide) (by decide) (by decide), cf_wa_n _ _ (by decide), g15]
/-! weight -/
theorem cf_m14_0 : cf_m14 0 := by
  unfold cf_m14
  decide +kernel
theorem cf_hv_m14 {A : Nat → Int32} {N : Nat} {V : Int32 → Int32} : ∀ f wo T S, cf_m14 S → cf_m14 (cf_hv A N V f wo T S).2.2.1 := by
  intro f
  induction f with
  | zero => intro wo T S h; exact h
  | succ f ih =>
    intro wo T S h
    simp only [cf_hv]
    by_cases h1 : cf_mid A N S T wo = -1
    · rw [if_pos h1]
      by_cases h2 : S = 1 <<< (nI wo &&& 31)
      · rw [if_pos h2]
        exact h
      · rw [if_neg h2]
        exact h
    · rw [if_neg h1]
      by_cases h2 : V (cf_mid A N S T wo) = 0
      · rw [if_pos h2]
        exact h
      · rw [if_neg h2]
        refine ih _ _ _ ?_
        by_cases h3 : V (cf_mid A N S T wo) = 2
        · rw [if_pos h3]
          exact cf_m14_and h
        · rw [if_neg h3]
          by_cases h4 : V (cf_mid A N S T wo) = 1
          · rw [if_pos h4]
            exact cf_m14_and h
          · rw [if_neg h4]
            exact h
theorem cf_tl_S {Fi Li : Nat → Int32} {V : Int32 → Int32} {R : Nat → Int32 × Int32} {h : Int32 × Int32 × Int32 × Int32} : (cf_tl Fi Li V R h).2.2.1 = h.2.2.1 := by
  unfold cf_tl
  split
  · rfl
  · split
    · rfl
    · split
      · rfl
      · split
        · rfl
        · rfl
theorem cf_wk_m14 {A Fi Li : Nat → Int32} {N g b : Nat} {V : Int32 → Int32} (hA : cf_m14 (A b)) : cf_m14 (cf_wk A Fi Li N g b V).2.2.1 := by
  have z := cf_m14_0
  by_cases b0 : V (nI b) = 0
  · rw [cf_wk_b0 b0]
    exact z
  · by_cases b2 : V (nI b) = 2
    · by_cases g0 : V (nI g) = 0
      · rw [cf_wk_g0 b2 g0]
        exact z
      · by_cases g1 : V (nI g) = 1
        · rw [cf_wk_h b2 g1, cf_tl_S]
          exact cf_hv_m14 _ _ _ _ (cf_m14_and hA)
        · rw [cf_wk_g6 b2 g0 g1]
          exact z
    · rw [cf_wk_b6 b0 b2]
      exact z
theorem tw_weight {w : cf_Wd} {n : Nat} {c : Int32} (hn : n ≤ 512) (hI : cf_Inv w n) : cf_two F_C_weight F_P_weight [.inl c] w (n + 1) := by
  obtain ⟨f', hW, ⟨h18, h19, h20, h21, h22⟩, hfr⟩ := cf_Inv_work hn hI
  have hI0 := hI
  obtain ⟨N, hH, hs, hr⟩ := hI
  have Hp := hH.Hp
  obtain ⟨⟨hN, h14, h150⟩, ⟨e2, e3, e4⟩, hF, hA, hP, hcd, hsc⟩ := hH
  have f0 : f' 0 = nI N := (hfr 0 (by decide) (by decide) (by decide) (by decide) (by decide)).trans h150
  have hin : cf_inn c 0 (f' 0 - 1) = cf_has w c := by rw [f0, ← h150]; exact cf_inn_has hN h14 h150
  cases h0 : cf_has w c
  · refine ⟨0, w, cf_wa w 15 f', cf_is (e_C_weight ?_), cf_is (e_P_weight ?_), cf_Inv_up (cf_Inv_15 hfr hI0)⟩
    · simp only [r_C_weight_0, r_C_weight_1, r_C_weight_4, c_C_weight_5 (sp_S_isSuspect), r_C_weight_8, r_C_weight_11, r_C_weight_12, r_C_weight_15, r_C_weight_16, r_C_weight_19, r_C_weight_22, r_C_weight_23, h0, Bool.false_and, cf_b_e0, ↓reduceIte, and_self]
    · simp only [r_P_weight_0, c_P_weight_1 (hW), r_P_weight_4, r_P_weight_5, c_P_weight_6 sp_P_isCommit, r_P_weight_9, r_P_weight_12, r_P_weight_13, r_P_weight_14, r_P_weight_17, r_P_weight_20, r_P_weight_21, cf_wa_s, cf_wa_n, pk_us, pk_un, ne_eq, Nat.reduceEqDiff, not_false_eq_true, reduceCtorEq, hin, h0, cf_b_e0, ↓reduceIte, and_self]
  · obtain ⟨k, hk, rfl⟩ := cf_has_of hN h14 h0
    have hk14 : k < 14 := by omega
    have hS14 : cf_m14 (w 10 12) := by
      rcases hr with ⟨_, ht⟩ | ⟨m, g, b, h4, h5⟩
      · unfold cf_tup at ht
        simp only [Prod.mk.injEq] at ht
        rw [ht.2.2.1]
        exact cf_m14_0
      · obtain ⟨_, ⟨hg, hb, hgb⟩, _, _, _, htu, _⟩ := h5
        have := cf_wk_m14 (A := w 3) (Fi := w 2) (Li := w 4) (N := N) (g := g) (b := b) (V := cf_V w m) (Hp.m14 hb)
        rw [← htu] at this
        exact this
    have hPw := sp_P_weightOf (w := cf_wa w 15 f') hk14 (by simp only [cf_wa_s, cf_wa_n, pk_us, pk_un, ne_eq, Nat.reduceEqDiff, not_false_eq_true, reduceCtorEq]; rw [h20]; exact hS14) (by simp only [cf_wa_s, cf_wa_n, pk_us, pk_un, ne_eq, Nat.reduceEqDiff, not_false_eq_true, reduceCtorEq]; rw [← e3]; exact Hp.m14 hk)
    simp only [cf_wa_s, cf_wa_n, pk_us, pk_un, ne_eq, Nat.reduceEqDiff, not_false_eq_true, reduceCtorEq, h20, ← e3] at hPw
    cases h1 : bt (w 10 12) k
    · refine ⟨0, w, cf_wa w 15 f', cf_is (e_C_weight ?_), cf_is (e_P_weight ?_), cf_Inv_up (cf_Inv_15 hfr hI0)⟩
      · simp only [r_C_weight_0, r_C_weight_1, r_C_weight_4, c_C_weight_5 (sp_S_isSuspect), r_C_weight_8, r_C_weight_11, r_C_weight_12, r_C_weight_15, r_C_weight_16, r_C_weight_19, r_C_weight_22, r_C_weight_23, h0, cf_bit_bt (show k < 32 by omega), h1, Bool.and_false, cf_b_e0, ↓reduceIte, and_self]
      · simp only [h1, reduceCtorEq, ↓reduceIte] at hPw
        simp only [r_P_weight_0, c_P_weight_1 (hW), r_P_weight_4, r_P_weight_5, c_P_weight_6 sp_P_isCommit, r_P_weight_9, r_P_weight_12, r_P_weight_13, c_P_weight_14 (hPw), r_P_weight_17, r_P_weight_20, r_P_weight_21, cf_wa_s, cf_wa_n, pk_us, pk_un, ne_eq, Nat.reduceEqDiff, not_false_eq_true, reduceCtorEq, hin, h0, cf_b_e0, reduceCtorEq, ↓reduceIte, and_self]
    · refine ⟨nI (cf_pw (w 3 k &&& w 10 12)), w, cf_wa w 15 f', cf_is (e_C_weight ?_), cf_is (e_P_weight ?_), cf_Inv_up (cf_Inv_15 hfr hI0)⟩
      · simp only [r_C_weight_0, r_C_weight_1, r_C_weight_4, c_C_weight_5 (sp_S_isSuspect), r_C_weight_8, r_C_weight_11, r_C_weight_12, r_C_weight_15, c_C_weight_16 (sp_S_weightOf hk14 (Hp.m14 hk)), r_C_weight_19, r_C_weight_22, r_C_weight_23, h0, cf_bit_bt (show k < 32 by omega), h1, Bool.and_true, cf_b_e0, reduceCtorEq, ↓reduceIte, and_self]
      · simp only [h1, ↓reduceIte] at hPw
        simp only [r_P_weight_0, c_P_weight_1 (hW), r_P_weight_4, r_P_weight_5, c_P_weight_6 sp_P_isCommit, r_P_weight_9, r_P_weight_12, r_P_weight_13, c_P_weight_14 (hPw), r_P_weight_17, r_P_weight_20, r_P_weight_21, cf_wa_s, cf_wa_n, pk_us, pk_un, ne_eq, Nat.reduceEqDiff, not_false_eq_true, reduceCtorEq, hin, h0, cf_b_e0, reduceCtorEq, ↓reduceIte, and_self]
