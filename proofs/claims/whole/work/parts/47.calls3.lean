/-! write -/
theorem lp_P_write {w : cf_Wd} {N : Nat} {c l cd : Int32} (hN : N ≤ 14) (h0 : w 15 0 = nI N) {Q : cf_Rs → Prop} (hQ : ∀ x, ((x = 1 ∧ ∃ k, k < N ∧ (w 16 k = c ∨ w 17 k = c)) ∨ (x = 0 ∧ ¬ ∃ k, k < N ∧ (w 16 k = c ∨ w 17 k = c))) → cf_wp T_P_write (55, [some (.inr 15), some (.inl c), some (.inl l), some (.inl cd), some (.inl x), some (.inl (nI N))], [], w) Q) : ∀ d k x, k + d = N → ((x = 1 ∧ ∃ j, j < k ∧ (w 16 j = c ∨ w 17 j = c)) ∨ (x = 0 ∧ ¬ ∃ j, j < k ∧ (w 16 j = c ∨ w 17 j = c))) → cf_wp T_P_write (6, [some (.inr 15), some (.inl c), some (.inl l), some (.inl cd), some (.inl x), some (.inl (nI k))], [], w) Q := by
  intro d
  induction d with
  | zero =>
    intro k x hk hx
    have e : k = N := by omega
    subst e
    have hc : (nI k ≤ nI k) = True := eq_true (nI_le (Nat.le_refl k) (by omega))
    simp only [r_P_write_6, r_P_write_8, r_P_write_9, r_P_write_12, h0, hc, ↓reduceIte]
    exact hQ x hx
  | succ d ih =>
    intro k x hk hx
    have hc : (nI N ≤ nI k) = False := eq_false (nI_ge (by omega) (by omega))
    have hk14 : k < 14 := by omega
    have k1 := fun (h : ∃ j, j < k + 1 ∧ (w 16 j = c ∨ w 17 j = c)) => ih (k + 1) 1 (by omega) (Or.inl ⟨rfl, h⟩)
    have k0 := fun (h : ¬ ∃ j, j < k + 1 ∧ (w 16 j = c ∨ w 17 j = c)) => ih (k + 1) 0 (by omega) (Or.inr ⟨rfl, h⟩)
    refine r_P_write_6.mpr ?_
    rcases hx with ⟨rfl, j, hj, hx⟩ | ⟨rfl, hx⟩
    · simp only [r_P_write_0, r_P_write_1, r_P_write_3, r_P_write_4, r_P_write_8, r_P_write_9, r_P_write_12, r_P_write_15, r_P_write_17, r_P_write_20, r_P_write_21, r_P_write_24, r_P_write_26, r_P_write_27, r_P_write_28, r_P_write_31, r_P_write_32, r_P_write_35, r_P_write_37, r_P_write_38, r_P_write_39, r_P_write_42, r_P_write_43, r_P_write_46, r_P_write_47, r_P_write_49, r_P_write_52, r_P_write_56, c_P_write_57 sp_P_isCommit, r_P_write_60, r_P_write_63, r_P_write_64, r_P_write_65, c_P_write_67 sp_P_in, r_P_write_70, r_P_write_73, r_P_write_74, r_P_write_75, c_P_write_78 sp_P_in, r_P_write_81, r_P_write_84, r_P_write_86, r_P_write_89, r_P_write_90, r_P_write_93, r_P_write_96, r_P_write_97, r_P_write_98, r_P_write_99, r_P_write_102, r_P_write_104, r_P_write_105, r_P_write_106, r_P_write_107, r_P_write_108, r_P_write_109, r_P_write_110, r_P_write_111, h0, hc, cf_q_0_1, cf_q_0_2, cf_q_0_3, cf_q_0_4, cf_q_0_5, cf_q_0_6, cf_q_0_7, cf_q_0_8, cf_q_0_9, cf_q_1_0, cf_q_1_2, cf_q_1_3, cf_q_1_4, cf_q_1_5, cf_q_1_6, cf_q_1_7, cf_q_1_8, cf_q_1_9, cf_q_2_0, cf_q_2_1, cf_q_2_3, cf_q_2_4, cf_q_2_5, cf_q_2_6, cf_q_2_7, cf_q_2_8, cf_q_2_9, cf_q_3_0, cf_q_3_1, cf_q_3_2, cf_q_3_4, cf_q_3_5, cf_q_3_6, cf_q_3_7, cf_q_3_8, cf_q_3_9, cf_q_4_0, cf_q_4_1, cf_q_4_2, cf_q_4_3, cf_q_4_5, cf_q_4_6, cf_q_4_7, cf_q_4_8, cf_q_4_9, cf_q_5_0, cf_q_5_1, cf_q_5_2, cf_q_5_3, cf_q_5_4, cf_q_5_6, cf_q_5_7, cf_q_5_8, cf_q_5_9, cf_q_6_0, cf_q_6_1, cf_q_6_2, cf_q_6_3, cf_q_6_4, cf_q_6_5, cf_q_6_7, cf_q_6_8, cf_q_6_9, cf_q_7_0, cf_q_7_1, cf_q_7_2, cf_q_7_3, cf_q_7_4, cf_q_7_5, cf_q_7_6, cf_q_7_8, cf_q_7_9, cf_q_8_0, cf_q_8_1, cf_q_8_2, cf_q_8_3, cf_q_8_4, cf_q_8_5, cf_q_8_6, cf_q_8_7, cf_q_8_9, cf_q_9_0, cf_q_9_1, cf_q_9_2, cf_q_9_3, cf_q_9_4, cf_q_9_5, cf_q_9_6, cf_q_9_7, cf_q_9_8, not_false_eq_true, ↓reduceIte, nI_1]
      exact k1 ⟨j, by omega, hx⟩
    · by_cases h1 : w 16 k = c
      · simp only [r_P_write_0, r_P_write_1, r_P_write_3, r_P_write_4, r_P_write_8, r_P_write_9, r_P_write_12, r_P_write_15, r_P_write_17, r_P_write_20, r_P_write_21, r_P_write_24, r_P_write_26, r_P_write_27, r_P_write_28, r_P_write_31, r_P_write_32, r_P_write_35, r_P_write_37, r_P_write_38, r_P_write_39, r_P_write_42, r_P_write_43, r_P_write_46, r_P_write_47, r_P_write_49, r_P_write_52, r_P_write_56, c_P_write_57 sp_P_isCommit, r_P_write_60, r_P_write_63, r_P_write_64, r_P_write_65, c_P_write_67 sp_P_in, r_P_write_70, r_P_write_73, r_P_write_74, r_P_write_75, c_P_write_78 sp_P_in, r_P_write_81, r_P_write_84, r_P_write_86, r_P_write_89, r_P_write_90, r_P_write_93, r_P_write_96, r_P_write_97, r_P_write_98, r_P_write_99, r_P_write_102, r_P_write_104, r_P_write_105, r_P_write_106, r_P_write_107, r_P_write_108, r_P_write_109, r_P_write_110, r_P_write_111, h0, hc, not_true_eq_false, ↓reduceIte, nI_1, cf_in_nI hk14 (by decide), nI_clamp (show k < 2 ^ 31 by omega), true_and, h1]
        exact k1 ⟨k, by omega, Or.inl h1⟩
      · by_cases h2 : w 17 k = c
        · simp only [r_P_write_0, r_P_write_1, r_P_write_3, r_P_write_4, r_P_write_8, r_P_write_9, r_P_write_12, r_P_write_15, r_P_write_17, r_P_write_20, r_P_write_21, r_P_write_24, r_P_write_26, r_P_write_27, r_P_write_28, r_P_write_31, r_P_write_32, r_P_write_35, r_P_write_37, r_P_write_38, r_P_write_39, r_P_write_42, r_P_write_43, r_P_write_46, r_P_write_47, r_P_write_49, r_P_write_52, r_P_write_56, c_P_write_57 sp_P_isCommit, r_P_write_60, r_P_write_63, r_P_write_64, r_P_write_65, c_P_write_67 sp_P_in, r_P_write_70, r_P_write_73, r_P_write_74, r_P_write_75, c_P_write_78 sp_P_in, r_P_write_81, r_P_write_84, r_P_write_86, r_P_write_89, r_P_write_90, r_P_write_93, r_P_write_96, r_P_write_97, r_P_write_98, r_P_write_99, r_P_write_102, r_P_write_104, r_P_write_105, r_P_write_106, r_P_write_107, r_P_write_108, r_P_write_109, r_P_write_110, r_P_write_111, h0, hc, not_true_eq_false, ↓reduceIte, nI_1, cf_in_nI hk14 (by decide), nI_clamp (show k < 2 ^ 31 by omega), true_and, h1, h2]
          exact k1 ⟨k, by omega, Or.inr h2⟩
        · simp only [r_P_write_0, r_P_write_1, r_P_write_3, r_P_write_4, r_P_write_8, r_P_write_9, r_P_write_12, r_P_write_15, r_P_write_17, r_P_write_20, r_P_write_21, r_P_write_24, r_P_write_26, r_P_write_27, r_P_write_28, r_P_write_31, r_P_write_32, r_P_write_35, r_P_write_37, r_P_write_38, r_P_write_39, r_P_write_42, r_P_write_43, r_P_write_46, r_P_write_47, r_P_write_49, r_P_write_52, r_P_write_56, c_P_write_57 sp_P_isCommit, r_P_write_60, r_P_write_63, r_P_write_64, r_P_write_65, c_P_write_67 sp_P_in, r_P_write_70, r_P_write_73, r_P_write_74, r_P_write_75, c_P_write_78 sp_P_in, r_P_write_81, r_P_write_84, r_P_write_86, r_P_write_89, r_P_write_90, r_P_write_93, r_P_write_96, r_P_write_97, r_P_write_98, r_P_write_99, r_P_write_102, r_P_write_104, r_P_write_105, r_P_write_106, r_P_write_107, r_P_write_108, r_P_write_109, r_P_write_110, r_P_write_111, h0, hc, not_true_eq_false, not_false_eq_true, ↓reduceIte, nI_1, cf_in_nI hk14 (by decide), nI_clamp (show k < 2 ^ 31 by omega), true_and, h1, h2]
          refine k0 (fun ⟨j, hj, h⟩ => ?_)
          by_cases e : j = k
          · subst e
            exact h.elim h1 h2
          · exact hx ⟨j, by omega, h⟩
theorem cf_999 {c : Int32} (h : cf_inn c 0 999 = true) : cf_cd c := by
  unfold cf_inn at h
  rw [Bool.and_eq_true, Bool.not_eq_true', Bool.not_eq_true', decide_eq_false_iff_not, decide_eq_false_iff_not] at h
  obtain ⟨j, hj, e⟩ := nI_of h.1
  subst e
  have e9 : (999 : Int32) = nI 999 := by decide +kernel
  rw [e9, nI_ltI (by decide) hj] at h
  exact ⟨j, by omega, rfl⟩
theorem cf_Inv_wr {w : cf_Wd} {n N k q : Nat} {cd : Int32} (hH : cf_Hi w N) (hs : w 10 16 = w 15 10) (hr : cf_Nos w) (hk : k < N) (hq : q < 8) (hcd : cf_cd cd) : cf_Inv (cf_wa (cf_wa w 4 (upd (w 4) (8 * k + q) cd)) 18 (upd (w 18) (8 * k + q) cd)) n := by
  refine ⟨N, ?_, ?_, Or.inl ?_⟩
  · obtain ⟨q1, ⟨e2, e3, e4⟩, q3, q4, q5, ⟨q6, q7⟩, q8⟩ := hH
    unfold cf_Hi
    simp only [cf_wa_s, cf_wa_n, pk_us, pk_un, ne_eq, Nat.reduceEqDiff, not_false_eq_true, reduceCtorEq]
    refine ⟨q1, ⟨e2, e3, by rw [e4]⟩, q3, q4, q5, ⟨fun i => ?_, fun i hi => ?_⟩, q8⟩
    · by_cases e : i = 8 * k + q
      · rw [e, pk_us]
        exact hcd
      · rw [pk_un e]
        exact q6 i
    · rw [pk_un (by omega)]
      exact q7 i hi
  · simp only [cf_wa_s, cf_wa_n, pk_us, pk_un, ne_eq, Nat.reduceEqDiff, not_false_eq_true, reduceCtorEq]
    exact hs
  · unfold cf_Nos cf_tup at hr ⊢
    simp only [cf_wa_s, cf_wa_n, pk_us, pk_un, ne_eq, Nat.reduceEqDiff, not_false_eq_true, reduceCtorEq]
    exact hr
theorem tw_write {w : cf_Wd} {n : Nat} {c l cd : Int32} (hn : n ≤ 512) (hI : cf_Inv w n) : cf_two F_C_write F_P_write [.inl c, .inl l, .inl cd] w (n + 1) := by
  have hI0 := hI
  obtain ⟨N, hH, hs, hr⟩ := hI
  have hH0 := hH
  obtain ⟨⟨hN, h14, h150⟩, ⟨e2, e3, e4⟩, hF, hA, hP, hcd, hsc⟩ := hH
  have hP0 : ∀ {Q : cf_Rs → Prop}, (∀ x, ((x = 1 ∧ ∃ k, k < N ∧ (w 16 k = c ∨ w 17 k = c)) ∨ (x = 0 ∧ ¬ ∃ k, k < N ∧ (w 16 k = c ∨ w 17 k = c))) → cf_wp T_P_write (55, [some (.inr 15), some (.inl c), some (.inl l), some (.inl cd), some (.inl x), some (.inl (nI N))], [], w) Q) → cf_wp T_P_write (0, [some (.inr 15), some (.inl c), some (.inl l), some (.inl cd), none, none], [], w) Q := by
    intro Q hQ
    have h := lp_P_write hN h150 hQ N 0 0 (by omega) (Or.inr ⟨rfl, fun ⟨j, hj, _⟩ => Nat.not_lt_zero j hj⟩)
    rw [nI_0] at h
    simp only [r_P_write_0, r_P_write_1, r_P_write_3, r_P_write_4]
    exact h
  have hse : (w 10 6 = 0 ∧ w 15 5 = 0 ∧ cf_Nos w) ∨ (¬ w 10 6 = 0 ∧ w 15 5 = 1) := by
    rcases hr with hr | ⟨m, g, b, h4, h5⟩
    · exact Or.inl ⟨cf_Nos_st hr, hr.1.1, hr⟩
    · exact Or.inr ⟨cf_Se_st h5, h5.1.1⟩
  have hin := cf_inn_has (c := c) hN h14 h150
  cases h0 : cf_has w c
  · refine ⟨0, w, w, cf_is (e_C_write ?_), cf_is (e_P_write (hP0 fun x hx => ?_)), cf_Inv_up hI0⟩
    · simp only [r_C_write_0, r_C_write_1, r_C_write_4, r_C_write_5, c_C_write_6 sp_H_hasLine, r_C_write_9, r_C_write_12, r_C_write_13, r_C_write_16, r_C_write_17, r_C_write_20, r_C_write_23, r_C_write_24, r_C_write_27, c_C_write_28 sp_H_isParent, r_C_write_31, r_C_write_34, r_C_write_35, r_C_write_38, r_C_write_41, r_C_write_44, r_C_write_45, r_C_write_48, r_C_write_49, r_C_write_51, r_C_write_53, r_C_write_56, r_C_write_57, r_C_write_58, r_C_write_59, r_C_write_62, r_C_write_63, r_C_write_64, r_C_write_65, r_C_write_68, r_C_write_69, cf_hl, h0, Bool.false_and, cf_b_e0, ↓reduceIte, cf_q_0_1, cf_q_0_2, cf_q_0_3, cf_q_0_4, cf_q_0_5, cf_q_0_6, cf_q_0_7, cf_q_0_8, cf_q_0_9, cf_q_1_0, cf_q_1_2, cf_q_1_3, cf_q_1_4, cf_q_1_5, cf_q_1_6, cf_q_1_7, cf_q_1_8, cf_q_1_9, cf_q_2_0, cf_q_2_1, cf_q_2_3, cf_q_2_4, cf_q_2_5, cf_q_2_6, cf_q_2_7, cf_q_2_8, cf_q_2_9, cf_q_3_0, cf_q_3_1, cf_q_3_2, cf_q_3_4, cf_q_3_5, cf_q_3_6, cf_q_3_7, cf_q_3_8, cf_q_3_9, cf_q_4_0, cf_q_4_1, cf_q_4_2, cf_q_4_3, cf_q_4_5, cf_q_4_6, cf_q_4_7, cf_q_4_8, cf_q_4_9, cf_q_5_0, cf_q_5_1, cf_q_5_2, cf_q_5_3, cf_q_5_4, cf_q_5_6, cf_q_5_7, cf_q_5_8, cf_q_5_9, cf_q_6_0, cf_q_6_1, cf_q_6_2, cf_q_6_3, cf_q_6_4, cf_q_6_5, cf_q_6_7, cf_q_6_8, cf_q_6_9, cf_q_7_0, cf_q_7_1, cf_q_7_2, cf_q_7_3, cf_q_7_4, cf_q_7_5, cf_q_7_6, cf_q_7_8, cf_q_7_9, cf_q_8_0, cf_q_8_1, cf_q_8_2, cf_q_8_3, cf_q_8_4, cf_q_8_5, cf_q_8_6, cf_q_8_7, cf_q_8_9, cf_q_9_0, cf_q_9_1, cf_q_9_2, cf_q_9_3, cf_q_9_4, cf_q_9_5, cf_q_9_6, cf_q_9_7, cf_q_9_8, and_self, true_or, true_and]
    · simp only [r_P_write_0, r_P_write_1, r_P_write_3, r_P_write_4, r_P_write_8, r_P_write_9, r_P_write_12, r_P_write_15, r_P_write_17, r_P_write_20, r_P_write_21, r_P_write_24, r_P_write_26, r_P_write_27, r_P_write_28, r_P_write_31, r_P_write_32, r_P_write_35, r_P_write_37, r_P_write_38, r_P_write_39, r_P_write_42, r_P_write_43, r_P_write_46, r_P_write_47, r_P_write_49, r_P_write_52, r_P_write_55, r_P_write_56, c_P_write_57 sp_P_isCommit, r_P_write_60, r_P_write_63, r_P_write_64, r_P_write_65, c_P_write_67 sp_P_in, r_P_write_70, r_P_write_73, r_P_write_74, r_P_write_75, c_P_write_78 sp_P_in, r_P_write_81, r_P_write_84, r_P_write_86, r_P_write_89, r_P_write_90, r_P_write_93, r_P_write_96, r_P_write_97, r_P_write_98, r_P_write_99, r_P_write_102, r_P_write_104, r_P_write_105, r_P_write_106, r_P_write_107, r_P_write_108, r_P_write_109, r_P_write_110, r_P_write_111, hin, h0, cf_b_e0, ↓reduceIte, and_self, true_or, true_and]
  · obtain ⟨k, hk, rfl⟩ := cf_has_of hN h14 h0
    have hk14 : k < 14 := by omega
    cases h1 : (!decide (l < 0) && !decide (8 ≤ l))
    · refine ⟨0, w, w, cf_is (e_C_write ?_), cf_is (e_P_write (hP0 fun x hx => ?_)), cf_Inv_up hI0⟩
      · simp only [r_C_write_0, r_C_write_1, r_C_write_4, r_C_write_5, c_C_write_6 sp_H_hasLine, r_C_write_9, r_C_write_12, r_C_write_13, r_C_write_16, r_C_write_17, r_C_write_20, r_C_write_23, r_C_write_24, r_C_write_27, c_C_write_28 sp_H_isParent, r_C_write_31, r_C_write_34, r_C_write_35, r_C_write_38, r_C_write_41, r_C_write_44, r_C_write_45, r_C_write_48, r_C_write_49, r_C_write_51, r_C_write_53, r_C_write_56, r_C_write_57, r_C_write_58, r_C_write_59, r_C_write_62, r_C_write_63, r_C_write_64, r_C_write_65, r_C_write_68, r_C_write_69, cf_hl, h0, h1, Bool.and_false, cf_b_e0, ↓reduceIte, cf_q_0_1, cf_q_0_2, cf_q_0_3, cf_q_0_4, cf_q_0_5, cf_q_0_6, cf_q_0_7, cf_q_0_8, cf_q_0_9, cf_q_1_0, cf_q_1_2, cf_q_1_3, cf_q_1_4, cf_q_1_5, cf_q_1_6, cf_q_1_7, cf_q_1_8, cf_q_1_9, cf_q_2_0, cf_q_2_1, cf_q_2_3, cf_q_2_4, cf_q_2_5, cf_q_2_6, cf_q_2_7, cf_q_2_8, cf_q_2_9, cf_q_3_0, cf_q_3_1, cf_q_3_2, cf_q_3_4, cf_q_3_5, cf_q_3_6, cf_q_3_7, cf_q_3_8, cf_q_3_9, cf_q_4_0, cf_q_4_1, cf_q_4_2, cf_q_4_3, cf_q_4_5, cf_q_4_6, cf_q_4_7, cf_q_4_8, cf_q_4_9, cf_q_5_0, cf_q_5_1, cf_q_5_2, cf_q_5_3, cf_q_5_4, cf_q_5_6, cf_q_5_7, cf_q_5_8, cf_q_5_9, cf_q_6_0, cf_q_6_1, cf_q_6_2, cf_q_6_3, cf_q_6_4, cf_q_6_5, cf_q_6_7, cf_q_6_8, cf_q_6_9, cf_q_7_0, cf_q_7_1, cf_q_7_2, cf_q_7_3, cf_q_7_4, cf_q_7_5, cf_q_7_6, cf_q_7_8, cf_q_7_9, cf_q_8_0, cf_q_8_1, cf_q_8_2, cf_q_8_3, cf_q_8_4, cf_q_8_5, cf_q_8_6, cf_q_8_7, cf_q_8_9, cf_q_9_0, cf_q_9_1, cf_q_9_2, cf_q_9_3, cf_q_9_4, cf_q_9_5, cf_q_9_6, cf_q_9_7, cf_q_9_8, and_self, true_or, true_and]
      · simp only [r_P_write_0, r_P_write_1, r_P_write_3, r_P_write_4, r_P_write_8, r_P_write_9, r_P_write_12, r_P_write_15, r_P_write_17, r_P_write_20, r_P_write_21, r_P_write_24, r_P_write_26, r_P_write_27, r_P_write_28, r_P_write_31, r_P_write_32, r_P_write_35, r_P_write_37, r_P_write_38, r_P_write_39, r_P_write_42, r_P_write_43, r_P_write_46, r_P_write_47, r_P_write_49, r_P_write_52, r_P_write_55, r_P_write_56, c_P_write_57 sp_P_isCommit, r_P_write_60, r_P_write_63, r_P_write_64, r_P_write_65, c_P_write_67 sp_P_in, r_P_write_70, r_P_write_73, r_P_write_74, r_P_write_75, c_P_write_78 sp_P_in, r_P_write_81, r_P_write_84, r_P_write_86, r_P_write_89, r_P_write_90, r_P_write_93, r_P_write_96, r_P_write_97, r_P_write_98, r_P_write_99, r_P_write_102, r_P_write_104, r_P_write_105, r_P_write_106, r_P_write_107, r_P_write_108, r_P_write_109, r_P_write_110, r_P_write_111, hin, h0, cf_inn7, h1, cf_b_e0, reduceCtorEq, ↓reduceIte, and_self, true_or, true_and]
    · obtain ⟨q, hq, rfl⟩ := cf_line_of h1
      have hb : 8 * k + q < 112 := by omega
      cases h2 : cf_inn cd 0 999
      · refine ⟨0, w, w, cf_is (e_C_write ?_), cf_is (e_P_write (hP0 fun x hx => ?_)), cf_Inv_up hI0⟩
        · by_cases c1 : cd < 0
          · simp only [r_C_write_0, r_C_write_1, r_C_write_4, r_C_write_5, c_C_write_6 sp_H_hasLine, r_C_write_9, r_C_write_12, r_C_write_13, r_C_write_16, r_C_write_17, r_C_write_20, r_C_write_23, r_C_write_24, r_C_write_27, c_C_write_28 sp_H_isParent, r_C_write_31, r_C_write_34, r_C_write_35, r_C_write_38, r_C_write_41, r_C_write_44, r_C_write_45, r_C_write_48, r_C_write_49, r_C_write_51, r_C_write_53, r_C_write_56, r_C_write_57, r_C_write_58, r_C_write_59, r_C_write_62, r_C_write_63, r_C_write_64, r_C_write_65, r_C_write_68, r_C_write_69, cf_hl, h0, h1, Bool.and_true, cf_b_e0, reduceCtorEq, c1, ↓reduceIte, cf_q_0_1, cf_q_0_2, cf_q_0_3, cf_q_0_4, cf_q_0_5, cf_q_0_6, cf_q_0_7, cf_q_0_8, cf_q_0_9, cf_q_1_0, cf_q_1_2, cf_q_1_3, cf_q_1_4, cf_q_1_5, cf_q_1_6, cf_q_1_7, cf_q_1_8, cf_q_1_9, cf_q_2_0, cf_q_2_1, cf_q_2_3, cf_q_2_4, cf_q_2_5, cf_q_2_6, cf_q_2_7, cf_q_2_8, cf_q_2_9, cf_q_3_0, cf_q_3_1, cf_q_3_2, cf_q_3_4, cf_q_3_5, cf_q_3_6, cf_q_3_7, cf_q_3_8, cf_q_3_9, cf_q_4_0, cf_q_4_1, cf_q_4_2, cf_q_4_3, cf_q_4_5, cf_q_4_6, cf_q_4_7, cf_q_4_8, cf_q_4_9, cf_q_5_0, cf_q_5_1, cf_q_5_2, cf_q_5_3, cf_q_5_4, cf_q_5_6, cf_q_5_7, cf_q_5_8, cf_q_5_9, cf_q_6_0, cf_q_6_1, cf_q_6_2, cf_q_6_3, cf_q_6_4, cf_q_6_5, cf_q_6_7, cf_q_6_8, cf_q_6_9, cf_q_7_0, cf_q_7_1, cf_q_7_2, cf_q_7_3, cf_q_7_4, cf_q_7_5, cf_q_7_6, cf_q_7_8, cf_q_7_9, cf_q_8_0, cf_q_8_1, cf_q_8_2, cf_q_8_3, cf_q_8_4, cf_q_8_5, cf_q_8_6, cf_q_8_7, cf_q_8_9, cf_q_9_0, cf_q_9_1, cf_q_9_2, cf_q_9_3, cf_q_9_4, cf_q_9_5, cf_q_9_6, cf_q_9_7, cf_q_9_8, and_self, true_or, true_and]
          · have c2 : (999 : Int32) < cd := by
              unfold cf_inn at h2
              simp [c1] at h2
              exact h2
            simp only [r_C_write_0, r_C_write_1, r_C_write_4, r_C_write_5, c_C_write_6 sp_H_hasLine, r_C_write_9, r_C_write_12, r_C_write_13, r_C_write_16, r_C_write_17, r_C_write_20, r_C_write_23, r_C_write_24, r_C_write_27, c_C_write_28 sp_H_isParent, r_C_write_31, r_C_write_34, r_C_write_35, r_C_write_38, r_C_write_41, r_C_write_44, r_C_write_45, r_C_write_48, r_C_write_49, r_C_write_51, r_C_write_53, r_C_write_56, r_C_write_57, r_C_write_58, r_C_write_59, r_C_write_62, r_C_write_63, r_C_write_64, r_C_write_65, r_C_write_68, r_C_write_69, cf_hl, h0, h1, Bool.and_true, cf_b_e0, reduceCtorEq, c1, c2, ↓reduceIte, cf_q_0_1, cf_q_0_2, cf_q_0_3, cf_q_0_4, cf_q_0_5, cf_q_0_6, cf_q_0_7, cf_q_0_8, cf_q_0_9, cf_q_1_0, cf_q_1_2, cf_q_1_3, cf_q_1_4, cf_q_1_5, cf_q_1_6, cf_q_1_7, cf_q_1_8, cf_q_1_9, cf_q_2_0, cf_q_2_1, cf_q_2_3, cf_q_2_4, cf_q_2_5, cf_q_2_6, cf_q_2_7, cf_q_2_8, cf_q_2_9, cf_q_3_0, cf_q_3_1, cf_q_3_2, cf_q_3_4, cf_q_3_5, cf_q_3_6, cf_q_3_7, cf_q_3_8, cf_q_3_9, cf_q_4_0, cf_q_4_1, cf_q_4_2, cf_q_4_3, cf_q_4_5, cf_q_4_6, cf_q_4_7, cf_q_4_8, cf_q_4_9, cf_q_5_0, cf_q_5_1, cf_q_5_2, cf_q_5_3, cf_q_5_4, cf_q_5_6, cf_q_5_7, cf_q_5_8, cf_q_5_9, cf_q_6_0, cf_q_6_1, cf_q_6_2, cf_q_6_3, cf_q_6_4, cf_q_6_5, cf_q_6_7, cf_q_6_8, cf_q_6_9, cf_q_7_0, cf_q_7_1, cf_q_7_2, cf_q_7_3, cf_q_7_4, cf_q_7_5, cf_q_7_6, cf_q_7_8, cf_q_7_9, cf_q_8_0, cf_q_8_1, cf_q_8_2, cf_q_8_3, cf_q_8_4, cf_q_8_5, cf_q_8_6, cf_q_8_7, cf_q_8_9, cf_q_9_0, cf_q_9_1, cf_q_9_2, cf_q_9_3, cf_q_9_4, cf_q_9_5, cf_q_9_6, cf_q_9_7, cf_q_9_8, and_self, true_or, true_and]
        · simp only [r_P_write_0, r_P_write_1, r_P_write_3, r_P_write_4, r_P_write_8, r_P_write_9, r_P_write_12, r_P_write_15, r_P_write_17, r_P_write_20, r_P_write_21, r_P_write_24, r_P_write_26, r_P_write_27, r_P_write_28, r_P_write_31, r_P_write_32, r_P_write_35, r_P_write_37, r_P_write_38, r_P_write_39, r_P_write_42, r_P_write_43, r_P_write_46, r_P_write_47, r_P_write_49, r_P_write_52, r_P_write_55, r_P_write_56, c_P_write_57 sp_P_isCommit, r_P_write_60, r_P_write_63, r_P_write_64, r_P_write_65, c_P_write_67 sp_P_in, r_P_write_70, r_P_write_73, r_P_write_74, r_P_write_75, c_P_write_78 sp_P_in, r_P_write_81, r_P_write_84, r_P_write_86, r_P_write_89, r_P_write_90, r_P_write_93, r_P_write_96, r_P_write_97, r_P_write_98, r_P_write_99, r_P_write_102, r_P_write_104, r_P_write_105, r_P_write_106, r_P_write_107, r_P_write_108, r_P_write_109, r_P_write_110, r_P_write_111, hin, h0, cf_inn7, h1, h2, cf_b_e0, reduceCtorEq, ↓reduceIte, and_self, true_or, true_and]
      · have c1 : ¬ cd < 0 := by
          intro c1
          unfold cf_inn at h2
          simp [c1] at h2
        have c2 : ¬ (999 : Int32) < cd := by
          intro c2
          unfold cf_inn at h2
          simp [c2] at h2
        cases h3 : bt (w 1 3) k
        · have hno : ¬ ∃ j, j < N ∧ (w 16 j = nI k ∨ w 17 j = nI k) := fun h => by
            rw [(hP k hk14).mpr h] at h3
            cases h3
          rcases hse with ⟨st, sr, hnos⟩ | ⟨st, sr⟩
          · refine ⟨1, cf_wa w 4 (upd (w 4) (8 * k + q) cd), cf_wa (cf_wa w 4 (upd (w 4) (8 * k + q) cd)) 18 (upd (w 18) (8 * k + q) cd), cf_is (e_C_write ?_), ?_, cf_Inv_up (cf_Inv_wr hH0 hs hnos hk hq (cf_999 h2))⟩
            · simp only [r_C_write_0, r_C_write_1, r_C_write_4, r_C_write_5, c_C_write_6 sp_H_hasLine, r_C_write_9, r_C_write_12, r_C_write_13, r_C_write_16, r_C_write_17, r_C_write_20, r_C_write_23, r_C_write_24, r_C_write_27, c_C_write_28 sp_H_isParent, r_C_write_31, r_C_write_34, r_C_write_35, r_C_write_38, r_C_write_41, r_C_write_44, r_C_write_45, r_C_write_48, r_C_write_49, r_C_write_51, r_C_write_53, r_C_write_56, r_C_write_57, r_C_write_58, r_C_write_59, r_C_write_62, r_C_write_63, r_C_write_64, c_C_write_65 (sp_H_setCode hb), r_C_write_68, r_C_write_69, cf_hl, h0, h1, Bool.and_true, cf_b_e0, reduceCtorEq, c1, c2, cf_bit_bt (show k < 32 by omega), h3, st, not_true_eq_false, ↓reduceIte, cf_q_0_1, cf_q_0_2, cf_q_0_3, cf_q_0_4, cf_q_0_5, cf_q_0_6, cf_q_0_7, cf_q_0_8, cf_q_0_9, cf_q_1_0, cf_q_1_2, cf_q_1_3, cf_q_1_4, cf_q_1_5, cf_q_1_6, cf_q_1_7, cf_q_1_8, cf_q_1_9, cf_q_2_0, cf_q_2_1, cf_q_2_3, cf_q_2_4, cf_q_2_5, cf_q_2_6, cf_q_2_7, cf_q_2_8, cf_q_2_9, cf_q_3_0, cf_q_3_1, cf_q_3_2, cf_q_3_4, cf_q_3_5, cf_q_3_6, cf_q_3_7, cf_q_3_8, cf_q_3_9, cf_q_4_0, cf_q_4_1, cf_q_4_2, cf_q_4_3, cf_q_4_5, cf_q_4_6, cf_q_4_7, cf_q_4_8, cf_q_4_9, cf_q_5_0, cf_q_5_1, cf_q_5_2, cf_q_5_3, cf_q_5_4, cf_q_5_6, cf_q_5_7, cf_q_5_8, cf_q_5_9, cf_q_6_0, cf_q_6_1, cf_q_6_2, cf_q_6_3, cf_q_6_4, cf_q_6_5, cf_q_6_7, cf_q_6_8, cf_q_6_9, cf_q_7_0, cf_q_7_1, cf_q_7_2, cf_q_7_3, cf_q_7_4, cf_q_7_5, cf_q_7_6, cf_q_7_8, cf_q_7_9, cf_q_8_0, cf_q_8_1, cf_q_8_2, cf_q_8_3, cf_q_8_4, cf_q_8_5, cf_q_8_6, cf_q_8_7, cf_q_8_9, cf_q_9_0, cf_q_9_1, cf_q_9_2, cf_q_9_3, cf_q_9_4, cf_q_9_5, cf_q_9_6, cf_q_9_7, cf_q_9_8, and_self, or_true, true_and]
            · refine cf_is (e_P_write ?_)
              have h := lp_P_write (w := cf_wa w 4 (upd (w 4) (8 * k + q) cd)) (c := nI k) (l := nI q) (cd := cd) hN (by simp only [cf_wa_s, cf_wa_n, pk_us, pk_un, ne_eq, Nat.reduceEqDiff, not_false_eq_true, reduceCtorEq]; exact h150) (Q := cf_qb (fun x w1 => x = 1 ∧ w1 = cf_wa (cf_wa w 4 (upd (w 4) (8 * k + q) cd)) 18 (upd (w 18) (8 * k + q) cd))) (fun x hx => by
                simp only [cf_wa_s, cf_wa_n, pk_us, pk_un, ne_eq, Nat.reduceEqDiff, not_false_eq_true, reduceCtorEq] at hx
                rcases hx with ⟨rfl, hx⟩ | ⟨rfl, hx⟩
                · exact absurd hx hno
                · simp only [r_P_write_0, r_P_write_1, r_P_write_3, r_P_write_4, r_P_write_8, r_P_write_9, r_P_write_12, r_P_write_15, r_P_write_17, r_P_write_20, r_P_write_21, r_P_write_24, r_P_write_26, r_P_write_27, r_P_write_28, r_P_write_31, r_P_write_32, r_P_write_35, r_P_write_37, r_P_write_38, r_P_write_39, r_P_write_42, r_P_write_43, r_P_write_46, r_P_write_47, r_P_write_49, r_P_write_52, r_P_write_55, r_P_write_56, c_P_write_57 sp_P_isCommit, r_P_write_60, r_P_write_63, r_P_write_64, r_P_write_65, c_P_write_67 sp_P_in, r_P_write_70, r_P_write_73, r_P_write_74, r_P_write_75, c_P_write_78 sp_P_in, r_P_write_81, r_P_write_84, r_P_write_86, r_P_write_89, r_P_write_90, r_P_write_93, r_P_write_96, r_P_write_97, r_P_write_98, r_P_write_99, r_P_write_102, r_P_write_104, r_P_write_105, r_P_write_106, r_P_write_107, r_P_write_108, r_P_write_109, r_P_write_110, r_P_write_111, cf_wa_s, cf_wa_n, pk_us, pk_un, ne_eq, Nat.reduceEqDiff, not_false_eq_true, reduceCtorEq, hin, h0, cf_inn7, h1, h2, sr, cf_b_e0, reduceCtorEq, cf_q_0_1, cf_q_0_2, cf_q_0_3, cf_q_0_4, cf_q_0_5, cf_q_0_6, cf_q_0_7, cf_q_0_8, cf_q_0_9, cf_q_1_0, cf_q_1_2, cf_q_1_3, cf_q_1_4, cf_q_1_5, cf_q_1_6, cf_q_1_7, cf_q_1_8, cf_q_1_9, cf_q_2_0, cf_q_2_1, cf_q_2_3, cf_q_2_4, cf_q_2_5, cf_q_2_6, cf_q_2_7, cf_q_2_8, cf_q_2_9, cf_q_3_0, cf_q_3_1, cf_q_3_2, cf_q_3_4, cf_q_3_5, cf_q_3_6, cf_q_3_7, cf_q_3_8, cf_q_3_9, cf_q_4_0, cf_q_4_1, cf_q_4_2, cf_q_4_3, cf_q_4_5, cf_q_4_6, cf_q_4_7, cf_q_4_8, cf_q_4_9, cf_q_5_0, cf_q_5_1, cf_q_5_2, cf_q_5_3, cf_q_5_4, cf_q_5_6, cf_q_5_7, cf_q_5_8, cf_q_5_9, cf_q_6_0, cf_q_6_1, cf_q_6_2, cf_q_6_3, cf_q_6_4, cf_q_6_5, cf_q_6_7, cf_q_6_8, cf_q_6_9, cf_q_7_0, cf_q_7_1, cf_q_7_2, cf_q_7_3, cf_q_7_4, cf_q_7_5, cf_q_7_6, cf_q_7_8, cf_q_7_9, cf_q_8_0, cf_q_8_1, cf_q_8_2, cf_q_8_3, cf_q_8_4, cf_q_8_5, cf_q_8_6, cf_q_8_7, cf_q_8_9, cf_q_9_0, cf_q_9_1, cf_q_9_2, cf_q_9_3, cf_q_9_4, cf_q_9_5, cf_q_9_6, cf_q_9_7, cf_q_9_8, not_true_eq_false, ↓reduceIte, cf_8c, cf_in_nI hb (by decide), nI_clamp (show 8 * k + q < 2 ^ 31 by omega), and_self, or_true, true_and]) N 0 0 (by omega) (Or.inr ⟨rfl, fun ⟨j, hj, _⟩ => Nat.not_lt_zero j hj⟩)
              rw [nI_0] at h
              simp only [r_P_write_0, r_P_write_1, r_P_write_3, r_P_write_4]
              exact h
          · refine ⟨0, w, w, cf_is (e_C_write ?_), cf_is (e_P_write (hP0 fun x hx => ?_)), cf_Inv_up hI0⟩
            · simp only [r_C_write_0, r_C_write_1, r_C_write_4, r_C_write_5, c_C_write_6 sp_H_hasLine, r_C_write_9, r_C_write_12, r_C_write_13, r_C_write_16, r_C_write_17, r_C_write_20, r_C_write_23, r_C_write_24, r_C_write_27, c_C_write_28 sp_H_isParent, r_C_write_31, r_C_write_34, r_C_write_35, r_C_write_38, r_C_write_41, r_C_write_44, r_C_write_45, r_C_write_48, r_C_write_49, r_C_write_51, r_C_write_53, r_C_write_56, r_C_write_57, r_C_write_58, r_C_write_59, r_C_write_62, r_C_write_63, r_C_write_64, r_C_write_65, r_C_write_68, r_C_write_69, cf_hl, h0, h1, Bool.and_true, cf_b_e0, reduceCtorEq, c1, c2, cf_bit_bt (show k < 32 by omega), h3, st, not_true_eq_false, ↓reduceIte, cf_q_0_1, cf_q_0_2, cf_q_0_3, cf_q_0_4, cf_q_0_5, cf_q_0_6, cf_q_0_7, cf_q_0_8, cf_q_0_9, cf_q_1_0, cf_q_1_2, cf_q_1_3, cf_q_1_4, cf_q_1_5, cf_q_1_6, cf_q_1_7, cf_q_1_8, cf_q_1_9, cf_q_2_0, cf_q_2_1, cf_q_2_3, cf_q_2_4, cf_q_2_5, cf_q_2_6, cf_q_2_7, cf_q_2_8, cf_q_2_9, cf_q_3_0, cf_q_3_1, cf_q_3_2, cf_q_3_4, cf_q_3_5, cf_q_3_6, cf_q_3_7, cf_q_3_8, cf_q_3_9, cf_q_4_0, cf_q_4_1, cf_q_4_2, cf_q_4_3, cf_q_4_5, cf_q_4_6, cf_q_4_7, cf_q_4_8, cf_q_4_9, cf_q_5_0, cf_q_5_1, cf_q_5_2, cf_q_5_3, cf_q_5_4, cf_q_5_6, cf_q_5_7, cf_q_5_8, cf_q_5_9, cf_q_6_0, cf_q_6_1, cf_q_6_2, cf_q_6_3, cf_q_6_4, cf_q_6_5, cf_q_6_7, cf_q_6_8, cf_q_6_9, cf_q_7_0, cf_q_7_1, cf_q_7_2, cf_q_7_3, cf_q_7_4, cf_q_7_5, cf_q_7_6, cf_q_7_8, cf_q_7_9, cf_q_8_0, cf_q_8_1, cf_q_8_2, cf_q_8_3, cf_q_8_4, cf_q_8_5, cf_q_8_6, cf_q_8_7, cf_q_8_9, cf_q_9_0, cf_q_9_1, cf_q_9_2, cf_q_9_3, cf_q_9_4, cf_q_9_5, cf_q_9_6, cf_q_9_7, cf_q_9_8, and_self, true_or, true_and]
            · rcases hx with ⟨rfl, hx⟩ | ⟨rfl, hx⟩
              · exact absurd hx hno
              · simp only [r_P_write_0, r_P_write_1, r_P_write_3, r_P_write_4, r_P_write_8, r_P_write_9, r_P_write_12, r_P_write_15, r_P_write_17, r_P_write_20, r_P_write_21, r_P_write_24, r_P_write_26, r_P_write_27, r_P_write_28, r_P_write_31, r_P_write_32, r_P_write_35, r_P_write_37, r_P_write_38, r_P_write_39, r_P_write_42, r_P_write_43, r_P_write_46, r_P_write_47, r_P_write_49, r_P_write_52, r_P_write_55, r_P_write_56, c_P_write_57 sp_P_isCommit, r_P_write_60, r_P_write_63, r_P_write_64, r_P_write_65, c_P_write_67 sp_P_in, r_P_write_70, r_P_write_73, r_P_write_74, r_P_write_75, c_P_write_78 sp_P_in, r_P_write_81, r_P_write_84, r_P_write_86, r_P_write_89, r_P_write_90, r_P_write_93, r_P_write_96, r_P_write_97, r_P_write_98, r_P_write_99, r_P_write_102, r_P_write_104, r_P_write_105, r_P_write_106, r_P_write_107, r_P_write_108, r_P_write_109, r_P_write_110, r_P_write_111, hin, h0, cf_inn7, h1, h2, sr, cf_b_e0, reduceCtorEq, cf_q_0_1, cf_q_0_2, cf_q_0_3, cf_q_0_4, cf_q_0_5, cf_q_0_6, cf_q_0_7, cf_q_0_8, cf_q_0_9, cf_q_1_0, cf_q_1_2, cf_q_1_3, cf_q_1_4, cf_q_1_5, cf_q_1_6, cf_q_1_7, cf_q_1_8, cf_q_1_9, cf_q_2_0, cf_q_2_1, cf_q_2_3, cf_q_2_4, cf_q_2_5, cf_q_2_6, cf_q_2_7, cf_q_2_8, cf_q_2_9, cf_q_3_0, cf_q_3_1, cf_q_3_2, cf_q_3_4, cf_q_3_5, cf_q_3_6, cf_q_3_7, cf_q_3_8, cf_q_3_9, cf_q_4_0, cf_q_4_1, cf_q_4_2, cf_q_4_3, cf_q_4_5, cf_q_4_6, cf_q_4_7, cf_q_4_8, cf_q_4_9, cf_q_5_0, cf_q_5_1, cf_q_5_2, cf_q_5_3, cf_q_5_4, cf_q_5_6, cf_q_5_7, cf_q_5_8, cf_q_5_9, cf_q_6_0, cf_q_6_1, cf_q_6_2, cf_q_6_3, cf_q_6_4, cf_q_6_5, cf_q_6_7, cf_q_6_8, cf_q_6_9, cf_q_7_0, cf_q_7_1, cf_q_7_2, cf_q_7_3, cf_q_7_4, cf_q_7_5, cf_q_7_6, cf_q_7_8, cf_q_7_9, cf_q_8_0, cf_q_8_1, cf_q_8_2, cf_q_8_3, cf_q_8_4, cf_q_8_5, cf_q_8_6, cf_q_8_7, cf_q_8_9, cf_q_9_0, cf_q_9_1, cf_q_9_2, cf_q_9_3, cf_q_9_4, cf_q_9_5, cf_q_9_6, cf_q_9_7, cf_q_9_8, not_true_eq_false, ↓reduceIte, and_self, true_or, true_and]
        · have hyes := (hP k hk14).mp h3
          refine ⟨0, w, w, cf_is (e_C_write ?_), cf_is (e_P_write (hP0 fun x hx => ?_)), cf_Inv_up hI0⟩
          · simp only [r_C_write_0, r_C_write_1, r_C_write_4, r_C_write_5, c_C_write_6 sp_H_hasLine, r_C_write_9, r_C_write_12, r_C_write_13, r_C_write_16, r_C_write_17, r_C_write_20, r_C_write_23, r_C_write_24, r_C_write_27, c_C_write_28 sp_H_isParent, r_C_write_31, r_C_write_34, r_C_write_35, r_C_write_38, r_C_write_41, r_C_write_44, r_C_write_45, r_C_write_48, r_C_write_49, r_C_write_51, r_C_write_53, r_C_write_56, r_C_write_57, r_C_write_58, r_C_write_59, r_C_write_62, r_C_write_63, r_C_write_64, r_C_write_65, r_C_write_68, r_C_write_69, cf_hl, h0, h1, Bool.and_true, cf_b_e0, reduceCtorEq, c1, c2, cf_bit_bt (show k < 32 by omega), h3, not_false_eq_true, ↓reduceIte, cf_q_0_1, cf_q_0_2, cf_q_0_3, cf_q_0_4, cf_q_0_5, cf_q_0_6, cf_q_0_7, cf_q_0_8, cf_q_0_9, cf_q_1_0, cf_q_1_2, cf_q_1_3, cf_q_1_4, cf_q_1_5, cf_q_1_6, cf_q_1_7, cf_q_1_8, cf_q_1_9, cf_q_2_0, cf_q_2_1, cf_q_2_3, cf_q_2_4, cf_q_2_5, cf_q_2_6, cf_q_2_7, cf_q_2_8, cf_q_2_9, cf_q_3_0, cf_q_3_1, cf_q_3_2, cf_q_3_4, cf_q_3_5, cf_q_3_6, cf_q_3_7, cf_q_3_8, cf_q_3_9, cf_q_4_0, cf_q_4_1, cf_q_4_2, cf_q_4_3, cf_q_4_5, cf_q_4_6, cf_q_4_7, cf_q_4_8, cf_q_4_9, cf_q_5_0, cf_q_5_1, cf_q_5_2, cf_q_5_3, cf_q_5_4, cf_q_5_6, cf_q_5_7, cf_q_5_8, cf_q_5_9, cf_q_6_0, cf_q_6_1, cf_q_6_2, cf_q_6_3, cf_q_6_4, cf_q_6_5, cf_q_6_7, cf_q_6_8, cf_q_6_9, cf_q_7_0, cf_q_7_1, cf_q_7_2, cf_q_7_3, cf_q_7_4, cf_q_7_5, cf_q_7_6, cf_q_7_8, cf_q_7_9, cf_q_8_0, cf_q_8_1, cf_q_8_2, cf_q_8_3, cf_q_8_4, cf_q_8_5, cf_q_8_6, cf_q_8_7, cf_q_8_9, cf_q_9_0, cf_q_9_1, cf_q_9_2, cf_q_9_3, cf_q_9_4, cf_q_9_5, cf_q_9_6, cf_q_9_7, cf_q_9_8, and_self, true_or, true_and]
          · rcases hx with ⟨rfl, hx⟩ | ⟨rfl, hx⟩
            · simp only [r_P_write_0, r_P_write_1, r_P_write_3, r_P_write_4, r_P_write_8, r_P_write_9, r_P_write_12, r_P_write_15, r_P_write_17, r_P_write_20, r_P_write_21, r_P_write_24, r_P_write_26, r_P_write_27, r_P_write_28, r_P_write_31, r_P_write_32, r_P_write_35, r_P_write_37, r_P_write_38, r_P_write_39, r_P_write_42, r_P_write_43, r_P_write_46, r_P_write_47, r_P_write_49, r_P_write_52, r_P_write_55, r_P_write_56, c_P_write_57 sp_P_isCommit, r_P_write_60, r_P_write_63, r_P_write_64, r_P_write_65, c_P_write_67 sp_P_in, r_P_write_70, r_P_write_73, r_P_write_74, r_P_write_75, c_P_write_78 sp_P_in, r_P_write_81, r_P_write_84, r_P_write_86, r_P_write_89, r_P_write_90, r_P_write_93, r_P_write_96, r_P_write_97, r_P_write_98, r_P_write_99, r_P_write_102, r_P_write_104, r_P_write_105, r_P_write_106, r_P_write_107, r_P_write_108, r_P_write_109, r_P_write_110, r_P_write_111, hin, h0, cf_inn7, h1, h2, cf_b_e0, reduceCtorEq, cf_q_0_1, cf_q_0_2, cf_q_0_3, cf_q_0_4, cf_q_0_5, cf_q_0_6, cf_q_0_7, cf_q_0_8, cf_q_0_9, cf_q_1_0, cf_q_1_2, cf_q_1_3, cf_q_1_4, cf_q_1_5, cf_q_1_6, cf_q_1_7, cf_q_1_8, cf_q_1_9, cf_q_2_0, cf_q_2_1, cf_q_2_3, cf_q_2_4, cf_q_2_5, cf_q_2_6, cf_q_2_7, cf_q_2_8, cf_q_2_9, cf_q_3_0, cf_q_3_1, cf_q_3_2, cf_q_3_4, cf_q_3_5, cf_q_3_6, cf_q_3_7, cf_q_3_8, cf_q_3_9, cf_q_4_0, cf_q_4_1, cf_q_4_2, cf_q_4_3, cf_q_4_5, cf_q_4_6, cf_q_4_7, cf_q_4_8, cf_q_4_9, cf_q_5_0, cf_q_5_1, cf_q_5_2, cf_q_5_3, cf_q_5_4, cf_q_5_6, cf_q_5_7, cf_q_5_8, cf_q_5_9, cf_q_6_0, cf_q_6_1, cf_q_6_2, cf_q_6_3, cf_q_6_4, cf_q_6_5, cf_q_6_7, cf_q_6_8, cf_q_6_9, cf_q_7_0, cf_q_7_1, cf_q_7_2, cf_q_7_3, cf_q_7_4, cf_q_7_5, cf_q_7_6, cf_q_7_8, cf_q_7_9, cf_q_8_0, cf_q_8_1, cf_q_8_2, cf_q_8_3, cf_q_8_4, cf_q_8_5, cf_q_8_6, cf_q_8_7, cf_q_8_9, cf_q_9_0, cf_q_9_1, cf_q_9_2, cf_q_9_3, cf_q_9_4, cf_q_9_5, cf_q_9_6, cf_q_9_7, cf_q_9_8, not_false_eq_true, ↓reduceIte, and_self, true_or, true_and]
            · exact absurd hyes hx
/-! begin -/
theorem cf_in14 {w : cf_Wd} {N : Nat} (hN : N ≤ 14) (h1 : w 1 4 = nI N) (c : Int32) (h : cf_has w c = true) : cf_in c 14 = true := by
  obtain ⟨k, hk, rfl⟩ := cf_has_of hN h1 h
  exact cf_in_nI (by omega) (by decide)
/-- a search that has been opened -/
def cf_opf (f : Nat → Int32) (g b x : Int32) : Nat → Int32 := upd (upd (upd (upd (cf_cls0 f) 7 g) 8 b) 9 x) 6 1
theorem sp_S_open {w : cf_Wd} {N g b : Nat} {x : Int32} (Hp : cf_Hp w N) (hg : g < N) (hb : b < N) : ∃ w1, F_S_open [.inr 10, .inl (nI g), .inl (nI b), .inl x] w = some (none, w1) ∧ (cf_Pl (cf_wa (cf_closed w) 10 (cf_opf (w 10) (nI g) (nI b) x)) w1 N g b (fun _ => 0) ∧ w1 10 6 = 1) := by
  refine e_S_open ?_
  have c10 : cf_closed w 10 = cf_cls0 (w 10) := by
    unfold cf_closed
    simp only [cf_wa_s, cf_wa_n, pk_us, pk_un, ne_eq, Nat.reduceEqDiff, not_false_eq_true, reduceCtorEq]
  have Hp' : cf_Hp (cf_wa (cf_closed w) 10 (cf_opf (w 10) (nI g) (nI b) x)) N := by
    unfold cf_Hp cf_closed
    simp only [cf_wa_s, cf_wa_n, pk_us, pk_un, ne_eq, Nat.reduceEqDiff, not_false_eq_true, reduceCtorEq]
    exact Hp
  have hV : cf_Vt (cf_wa (cf_closed w) 10 (cf_opf (w 10) (nI g) (nI b) x)) (fun _ => 0) := by
    unfold cf_Vt cf_closed cf_fill
    simp only [cf_wa_s, cf_wa_n, pk_us, pk_un, ne_eq, Nat.reduceEqDiff, not_false_eq_true, reduceCtorEq]
    exact ⟨fun c hc => if_pos hc, fun t ht => if_pos ht⟩
  obtain ⟨w1, hPl, h1, h2, h3⟩ := pln_1 (w := cf_wa (cf_closed w) 10 (cf_opf (w 10) (nI g) (nI b) x)) Hp' hV hg hb (by unfold cf_opf; simp only [cf_wa_s, cf_wa_n, pk_us, pk_un, ne_eq, Nat.reduceEqDiff, not_false_eq_true, reduceCtorEq]) (by unfold cf_opf; simp only [cf_wa_s, cf_wa_n, pk_us, pk_un, ne_eq, Nat.reduceEqDiff, not_false_eq_true, reduceCtorEq]) (by unfold cf_opf; simp only [cf_wa_s, cf_wa_n, pk_us, pk_un, ne_eq, Nat.reduceEqDiff, not_false_eq_true, reduceCtorEq]) (by unfold cf_opf cf_cls0; simp only [cf_wa_s, cf_wa_n, pk_us, pk_un, ne_eq, Nat.reduceEqDiff, not_false_eq_true, reduceCtorEq]) (by unfold cf_opf cf_cls0; simp only [cf_wa_s, cf_wa_n, pk_us, pk_un, ne_eq, Nat.reduceEqDiff, not_false_eq_true, reduceCtorEq]) (by unfold cf_closed; simp only [cf_wa_s, cf_wa_n, pk_us, pk_un, ne_eq, Nat.reduceEqDiff, not_false_eq_true, reduceCtorEq]) (fun h => by
    have h : (0 : Int32) = 2 := h
    rw [cf_q_0_2] at h
    exact h.elim)
  have hPl' : F_S_plan [.inr 10] (cf_wa (cf_closed w) 10 (upd (upd (upd (upd (cf_cls0 (w 10)) 7 (nI g)) 8 (nI b)) 9 x) 6 1)) = some (none, w1) := hPl
  simp only [r_S_open_0, c_S_open_1 (sp_S_close), r_S_open_4, r_S_open_5, r_S_open_6, r_S_open_9, r_S_open_10, r_S_open_11, r_S_open_14, r_S_open_15, r_S_open_16, r_S_open_19, r_S_open_20, r_S_open_21, r_S_open_24, c_S_open_25 (hPl'), r_S_open_28, c10, cf_wa_s, cf_wa_n, pk_us, pk_un, ne_eq, Nat.reduceEqDiff, not_false_eq_true, reduceCtorEq, cf_wa_wa]
  refine ⟨h1, ?_⟩
  have e := h1.1
  rw [cf_wk_b0 rfl] at e
  exact congrArg Prod.fst e
theorem tw_begin {w : cf_Wd} {n : Nat} {g b x : Int32} (hn : n ≤ 512) (hI : cf_Inv w n) : cf_two F_C_begin F_P_begin [.inl g, .inl b, .inl x] w (n + 1) := by
  have hI0 := hI
  obtain ⟨N, hH, hs, hr⟩ := hI
  have hH0 := hH
  have Hp := hH.Hp
  obtain ⟨⟨hN, h14, h150⟩, ⟨e2, e3, e4⟩, hF, hA, hP, hcd, hsc⟩ := hH
  have hold := sp_H_isOlderAncestor (g := g) (c := b) (w := w) (cf_in14 hN h14)
  have ing := cf_inn_has (c := g) hN h14 h150
  have inb := cf_inn_has (c := b) hN h14 h150
  cases h0 : cf_has w g
  · rw [h0, Bool.false_and] at hold
    refine ⟨0, w, w, cf_is (e_C_begin ?_), cf_is (e_P_begin ?_), cf_Inv_up hI0⟩
    · simp only [r_C_begin_0, r_C_begin_1, r_C_begin_4, r_C_begin_5, c_C_begin_6 (hold), r_C_begin_9, r_C_begin_12, r_C_begin_13, r_C_begin_14, r_C_begin_15, r_C_begin_18, r_C_begin_19, r_C_begin_20, r_C_begin_21, r_C_begin_24, r_C_begin_25, cf_b_e0, not_true_eq_false, ↓reduceIte, and_self, true_or, true_and]
    · simp only [r_P_begin_0, r_P_begin_1, c_P_begin_2 sp_P_isCommit, r_P_begin_5, r_P_begin_8, r_P_begin_9, c_P_begin_10 sp_P_isCommit, r_P_begin_13, r_P_begin_16, r_P_begin_17, r_P_begin_18, r_P_begin_21, r_P_begin_22, r_P_begin_25, r_P_begin_26, r_P_begin_27, r_P_begin_28, r_P_begin_29, r_P_begin_30, r_P_begin_31, r_P_begin_34, r_P_begin_35, r_P_begin_36, r_P_begin_37, r_P_begin_38, r_P_begin_41, r_P_begin_42, r_P_begin_43, r_P_begin_46, r_P_begin_47, r_P_begin_48, r_P_begin_51, r_P_begin_52, r_P_begin_53, r_P_begin_56, r_P_begin_57, r_P_begin_58, r_P_begin_61, r_P_begin_62, r_P_begin_63, r_P_begin_66, r_P_begin_67, ing, h0, cf_b_e0, ↓reduceIte, and_self, true_or, true_and]
  · rw [h0, Bool.true_and] at hold
    cases h1 : cf_has w b
    · rw [h1, Bool.false_and] at hold
      refine ⟨0, w, w, cf_is (e_C_begin ?_), cf_is (e_P_begin ?_), cf_Inv_up hI0⟩
      · simp only [r_C_begin_0, r_C_begin_1, r_C_begin_4, r_C_begin_5, c_C_begin_6 (hold), r_C_begin_9, r_C_begin_12, r_C_begin_13, r_C_begin_14, r_C_begin_15, r_C_begin_18, r_C_begin_19, r_C_begin_20, r_C_begin_21, r_C_begin_24, r_C_begin_25, cf_b_e0, not_true_eq_false, ↓reduceIte, and_self, true_or, true_and]
      · simp only [r_P_begin_0, r_P_begin_1, c_P_begin_2 sp_P_isCommit, r_P_begin_5, r_P_begin_8, r_P_begin_9, c_P_begin_10 sp_P_isCommit, r_P_begin_13, r_P_begin_16, r_P_begin_17, r_P_begin_18, r_P_begin_21, r_P_begin_22, r_P_begin_25, r_P_begin_26, r_P_begin_27, r_P_begin_28, r_P_begin_29, r_P_begin_30, r_P_begin_31, r_P_begin_34, r_P_begin_35, r_P_begin_36, r_P_begin_37, r_P_begin_38, r_P_begin_41, r_P_begin_42, r_P_begin_43, r_P_begin_46, r_P_begin_47, r_P_begin_48, r_P_begin_51, r_P_begin_52, r_P_begin_53, r_P_begin_56, r_P_begin_57, r_P_begin_58, r_P_begin_61, r_P_begin_62, r_P_begin_63, r_P_begin_66, r_P_begin_67, ing, inb, h0, h1, cf_b_e0, reduceCtorEq, ↓reduceIte, and_self, true_or, true_and]
    · rw [h1, Bool.true_and] at hold
      by_cases hgb : g = b
      · have e : (!decide (g = b) && cf_bit (w 3 b.toNatClampNeg) g) = false := by simp [hgb]
        rw [e] at hold
        refine ⟨0, w, w, cf_is (e_C_begin ?_), cf_is (e_P_begin ?_), cf_Inv_up hI0⟩
        · simp only [r_C_begin_0, r_C_begin_1, r_C_begin_4, r_C_begin_5, c_C_begin_6 (hold), r_C_begin_9, r_C_begin_12, r_C_begin_13, r_C_begin_14, r_C_begin_15, r_C_begin_18, r_C_begin_19, r_C_begin_20, r_C_begin_21, r_C_begin_24, r_C_begin_25, cf_b_e0, not_true_eq_false, ↓reduceIte, and_self, true_or, true_and]
        · have hgt := eq_true hgb
          simp only [r_P_begin_0, r_P_begin_1, c_P_begin_2 sp_P_isCommit, r_P_begin_5, r_P_begin_8, r_P_begin_9, c_P_begin_10 sp_P_isCommit, r_P_begin_13, r_P_begin_16, r_P_begin_17, r_P_begin_18, r_P_begin_21, r_P_begin_22, r_P_begin_25, r_P_begin_26, r_P_begin_27, r_P_begin_28, r_P_begin_29, r_P_begin_30, r_P_begin_31, r_P_begin_34, r_P_begin_35, r_P_begin_36, r_P_begin_37, r_P_begin_38, r_P_begin_41, r_P_begin_42, r_P_begin_43, r_P_begin_46, r_P_begin_47, r_P_begin_48, r_P_begin_51, r_P_begin_52, r_P_begin_53, r_P_begin_56, r_P_begin_57, r_P_begin_58, r_P_begin_61, r_P_begin_62, r_P_begin_63, r_P_begin_66, r_P_begin_67, ing, inb, h0, h1, hgt, cf_b_e0, reduceCtorEq, ↓reduceIte, and_self, true_or, true_and]
      · have e : (!decide (g = b) && cf_bit (w 3 b.toNatClampNeg) g) = cf_bit (w 3 b.toNatClampNeg) g := by simp [hgb]
        rw [e] at hold
        obtain ⟨γ, hγ, rfl⟩ := cf_has_of hN h14 h0
        obtain ⟨β, hβ, rfl⟩ := cf_has_of hN h14 h1
        have hβ14 : β < 14 := by omega
        rw [nI_clamp (show β < 2 ^ 31 by omega), cf_bit_bt (show γ < 32 by omega)] at hold
        cases h3 : bt (w 3 β) γ
        · rw [h3] at hold
          have h3' : bt (w 19 β) γ = false := by rw [← e3]; exact h3
          refine ⟨0, w, w, cf_is (e_C_begin ?_), cf_is (e_P_begin ?_), cf_Inv_up hI0⟩
          · simp only [r_C_begin_0, r_C_begin_1, r_C_begin_4, r_C_begin_5, c_C_begin_6 (hold), r_C_begin_9, r_C_begin_12, r_C_begin_13, r_C_begin_14, r_C_begin_15, r_C_begin_18, r_C_begin_19, r_C_begin_20, r_C_begin_21, r_C_begin_24, r_C_begin_25, cf_b_e0, not_true_eq_false, ↓reduceIte, and_self, true_or, true_and]
          · simp only [r_P_begin_0, r_P_begin_1, c_P_begin_2 sp_P_isCommit, r_P_begin_5, r_P_begin_8, r_P_begin_9, c_P_begin_10 sp_P_isCommit, r_P_begin_13, r_P_begin_16, r_P_begin_17, r_P_begin_18, r_P_begin_21, r_P_begin_22, r_P_begin_25, r_P_begin_26, r_P_begin_27, r_P_begin_28, r_P_begin_29, r_P_begin_30, r_P_begin_31, r_P_begin_34, r_P_begin_35, r_P_begin_36, r_P_begin_37, r_P_begin_38, r_P_begin_41, r_P_begin_42, r_P_begin_43, r_P_begin_46, r_P_begin_47, r_P_begin_48, r_P_begin_51, r_P_begin_52, r_P_begin_53, r_P_begin_56, r_P_begin_57, r_P_begin_58, r_P_begin_61, r_P_begin_62, r_P_begin_63, r_P_begin_66, r_P_begin_67, ing, inb, h0, h1, hgb, cf_b_e0, reduceCtorEq, ↓reduceIte, cf_in_nI hβ14 (by decide), nI_clamp (show β < 2 ^ 31 by omega), bt_e0 (show γ < 32 by omega), h3', not_true_eq_false, and_self, true_or, true_and]
        · rw [h3] at hold
          have h3' : bt (w 19 β) γ = true := by rw [← e3]; exact h3
          obtain ⟨w1, hO, ⟨p1, p2, p3⟩, p4⟩ := sp_S_open (w := w) (x := x) Hp hγ hβ
          have hC : F_C_begin [.inr 0, .inl (nI γ), .inl (nI β), .inl x] w = some (some (.inl 1), w1) := by
            refine cf_is (e_C_begin ?_)
            simp only [r_C_begin_0, r_C_begin_1, r_C_begin_4, r_C_begin_5, c_C_begin_6 (hold), r_C_begin_9, r_C_begin_12, r_C_begin_13, r_C_begin_14, r_C_begin_15, r_C_begin_18, r_C_begin_19, r_C_begin_20, c_C_begin_21 (hO), r_C_begin_24, r_C_begin_25, cf_b_e0, reduceCtorEq, not_false_eq_true, ↓reduceIte, and_self, or_true, true_and]
          have ge : ∀ k, 15 ≤ k → w1 k = w k := fun k hk => by
            rw [p2 k (by omega) (by omega), cf_wa_n _ _ (by omega)]
            unfold cf_closed
            rw [cf_wa_n _ _ (by omega), cf_wa_n _ _ (by omega), cf_wa_n _ _ (by omega), cf_wa_n _ _ (by omega)]
          have lo : ∀ k, k ≠ 10 → k ≠ 11 → k ≠ 12 → k ≠ 14 → w1 k = w k := fun k k1 k2 k3 k4 => by
            rw [p2 k k1 k2, cf_wa_n _ _ k1]
            unfold cf_closed
            rw [cf_wa_n _ _ k1, cf_wa_n _ _ k2, cf_wa_n _ _ k3, cf_wa_n _ _ k4]
          have g15 := ge 15 (by decide)
          have g19 := ge 19 (by decide)
          have t10 : ∀ k, k ≠ 6 → k ≠ 12 → k ≠ 13 → k ≠ 14 → w1 10 k = cf_opf (w 10) (nI γ) (nI β) x k := fun k k1 k2 k3 k4 => by
            rw [p3 k k1 k2 k3 k4, cf_wa_s]
          refine ⟨1, w1, cf_wa w1 15 (upd (upd (upd (upd (upd (upd (w 15) 5 1) 6 (nI γ)) 7 (nI β)) 8 x) 9 0) 11 0), hC, cf_is (e_P_begin ?_), ?_⟩
          · simp only [r_P_begin_0, r_P_begin_1, c_P_begin_2 sp_P_isCommit, r_P_begin_5, r_P_begin_8, r_P_begin_9, c_P_begin_10 sp_P_isCommit, r_P_begin_13, r_P_begin_16, r_P_begin_17, r_P_begin_18, r_P_begin_21, r_P_begin_22, r_P_begin_25, r_P_begin_26, r_P_begin_27, r_P_begin_28, r_P_begin_29, r_P_begin_30, r_P_begin_31, r_P_begin_34, r_P_begin_35, r_P_begin_36, r_P_begin_37, r_P_begin_38, r_P_begin_41, r_P_begin_42, r_P_begin_43, r_P_begin_46, r_P_begin_47, r_P_begin_48, r_P_begin_51, r_P_begin_52, r_P_begin_53, r_P_begin_56, r_P_begin_57, r_P_begin_58, r_P_begin_61, r_P_begin_62, r_P_begin_63, r_P_begin_66, r_P_begin_67, g15, g19, ing, inb, h0, h1, hgb, cf_b_e0, reduceCtorEq, ↓reduceIte, cf_in_nI hβ14 (by decide), nI_clamp (show β < 2 ^ 31 by omega), bt_e0 (show γ < 32 by omega), h3', not_false_eq_true, cf_z0, cf_z1, cf_wa_s, cf_wa_n, pk_us, pk_un, ne_eq, Nat.reduceEqDiff, not_false_eq_true, reduceCtorEq, cf_wa_wa, and_self, or_true, true_and]
          · refine ⟨N, ?_, ?_, Or.inr ⟨0, γ, β, Or.inl ⟨?_, by omega⟩, ?_⟩⟩
            · unfold cf_Hi at hH0 ⊢
              simp only [cf_wa_s, cf_wa_n, pk_us, pk_un, ne_eq, Nat.reduceEqDiff, not_false_eq_true, reduceCtorEq]
              rw [lo 1 (by decide) (by decide) (by decide) (by decide), lo 2 (by decide) (by decide) (by decide) (by decide), lo 3 (by decide) (by decide) (by decide) (by decide), lo 4 (by decide) (by decide) (by decide) (by decide), lo 6 (by decide) (by decide) (by decide) (by decide), ge 16 (by decide), ge 17 (by decide), ge 18 (by decide), ge 19 (by decide), ge 22 (by decide), ge 24 (by decide)]
              exact hH0
            · simp only [cf_wa_s, cf_wa_n, pk_us, pk_un, ne_eq, Nat.reduceEqDiff, not_false_eq_true, reduceCtorEq]
              rw [t10 16 (by decide) (by decide) (by decide) (by decide)]
              unfold cf_opf cf_cls0
              simp only [cf_wa_s, cf_wa_n, pk_us, pk_un, ne_eq, Nat.reduceEqDiff, not_false_eq_true, reduceCtorEq]
              exact hs
            · simp only [cf_wa_s, cf_wa_n, pk_us, pk_un, ne_eq, Nat.reduceEqDiff, not_false_eq_true, reduceCtorEq]
              rw [t10 15 (by decide) (by decide) (by decide) (by decide)]
              unfold cf_opf cf_cls0
              simp only [cf_wa_s, cf_wa_n, pk_us, pk_un, ne_eq, Nat.reduceEqDiff, not_false_eq_true, reduceCtorEq]
            · have eV : cf_V (cf_wa w1 15 (upd (upd (upd (upd (upd (upd (w 15) 5 1) 6 (nI γ)) 7 (nI β)) 8 x) 9 0) 11 0)) 0 = fun _ => 0 := rfl
              have u5 := t10 5 (by decide) (by decide) (by decide) (by decide)
              have u7 := t10 7 (by decide) (by decide) (by decide) (by decide)
              have u8 := t10 8 (by decide) (by decide) (by decide) (by decide)
              have u9 := t10 9 (by decide) (by decide) (by decide) (by decide)
              have u11 := t10 11 (by decide) (by decide) (by decide) (by decide)
              have u15 := t10 15 (by decide) (by decide) (by decide) (by decide)
              unfold cf_opf cf_cls0 at u5 u7 u8 u9 u11 u15
              simp only [cf_wa_s, cf_wa_n, pk_us, pk_un, ne_eq, Nat.reduceEqDiff, not_false_eq_true, reduceCtorEq] at u5 u7 u8 u9 u11 u15
              unfold cf_Se
              rw [eV]
              refine ⟨?_, ⟨hγ, hβ, fun e => hgb (by rw [e])⟩, Or.inl ?_, fun k hk => absurd hk (Nat.not_lt_zero k), ?_, ?_, ?_⟩
              · simp only [cf_wa_s, cf_wa_n, pk_us, pk_un, ne_eq, Nat.reduceEqDiff, not_false_eq_true, reduceCtorEq, u5, u7, u8, u9, u15, nI_0, and_self]
              · simp only [cf_wa_s, cf_wa_n, pk_us, pk_un, ne_eq, Nat.reduceEqDiff, not_false_eq_true, reduceCtorEq, u15]
              · unfold cf_Vt
                simp only [cf_wa_s, cf_wa_n, pk_us, pk_un, ne_eq, Nat.reduceEqDiff, not_false_eq_true, reduceCtorEq]
                rw [p2 14 (by decide) (by decide), p2 12 (by decide) (by decide)]
                unfold cf_closed cf_fill
                simp only [cf_wa_s, cf_wa_n, pk_us, pk_un, ne_eq, Nat.reduceEqDiff, not_false_eq_true, reduceCtorEq]
                exact ⟨fun c hc => if_pos hc, fun t ht => if_pos ht⟩
              · have p1' : cf_tup w1 = cf_wk (w1 3) (w1 2) (w1 4) N γ β (fun _ => 0) := by
                  rw [p1, cf_wk_b0 rfl, cf_wk_b0 rfl]
                unfold cf_tup at p1' ⊢
                simp only [cf_wa_s, cf_wa_n, pk_us, pk_un, ne_eq, Nat.reduceEqDiff, not_false_eq_true, reduceCtorEq]
                exact p1'
              · unfold cf_In
                rw [eV]
                simp only [cf_wa_s, cf_wa_n, pk_us, pk_un, ne_eq, Nat.reduceEqDiff, not_false_eq_true, reduceCtorEq]
                refine ⟨fun _ => ⟨u11, Or.inl fun _ => trivial⟩, fun h => ?_⟩
                rw [p4] at h
                exact absurd h (by decide)
