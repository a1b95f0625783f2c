/-! the class: follow -/
theorem cf_pw_n {s : Nat} (h : s < 2 ^ 32) : cf_pw (nI s) = cf_pop s := by
  unfold cf_pw
  rw [cf_tn h]
theorem cf_rd_0 {V : Int32 → Int32} {s n : Nat} : cf_rd V 0 s n = (-1, nI s) := rfl
theorem cf_rd_1 {V : Int32 → Int32} {f s n : Nat} (h : cf_pop s ≤ 1) : cf_rd V (f + 1) s n = (-1, nI s) := by
  simp only [cf_rd]
  rw [if_pos h]
theorem cf_rd_a {V : Int32 → Int32} {f s n j : Nat} (h : ¬ cf_pop s ≤ 1) (hj : cf_ff V (nI s) (nI n) false n 0 = some j) : cf_rd V (f + 1) s n = if V (1000 + cf_sn (nI s) (nI n) false (nI j)) = 0 then (cf_sn (nI s) (nI n) false (nI j), nI s) else cf_rd V f (cf_sn (nI s) (nI n) false (nI j)).toBitVec.toNat 2 := by
  simp only [cf_rd]
  rw [if_neg h, hj]
theorem cf_rd_b {V : Int32 → Int32} {f s n j : Nat} (h : ¬ cf_pop s ≤ 1) (h0 : cf_ff V (nI s) (nI n) false n 0 = none) (hj : cf_ff V (nI s) (nI n) true n 0 = some j) : cf_rd V (f + 1) s n = if V (1000 + cf_sn (nI s) (nI n) true (nI j)) = 0 then (cf_sn (nI s) (nI n) true (nI j), nI s) else cf_rd V f (cf_sn (nI s) (nI n) true (nI j)).toBitVec.toNat (max (n - 1) 2) := by
  simp only [cf_rd]
  rw [if_neg h, h0, hj]
theorem cf_rd_c {V : Int32 → Int32} {f s n : Nat} (h : ¬ cf_pop s ≤ 1) (h0 : cf_ff V (nI s) (nI n) false n 0 = none) (h1 : cf_ff V (nI s) (nI n) true n 0 = none) : cf_rd V (f + 1) s n = if cf_pop s ≤ n then (-1, nI s) else cf_rd V f s (min (2 * n) (cf_pop s)) := by
  simp only [cf_rd]
  rw [if_neg h, h0, h1]
theorem cf_nIt {t : Nat} (h : t < 256) : (nI t).toBitVec.toNat = t := cf_tn (by omega)
theorem cf_1lt {n : Nat} (h : n < 2 ^ 31) : ((1 : Int32) < nI n) = (1 < n) := by
  have e : (1 : Int32) = nI 1 := by decide +kernel
  rw [e]
  exact propext (nI_ltI (by decide) h)
theorem cf_2m {n : Nat} : 2 * nI n = nI (2 * n) := by
  have e : (2 : Int32) = nI 2 := by decide +kernel
  rw [e]
  unfold nI
  rw [Int32.ofNat_mul]
theorem cf_max1 {n : Nat} (h : 2 ≤ n) (hn : n < 100) : (if nI n - 1 < 2 then (2 : Int32) else nI n - 1) = nI (max (n - 1) 2) := by
  obtain ⟨m, rfl⟩ : ∃ m, n = m + 1 := ⟨n - 1, by omega⟩
  have e : (2 : Int32) = nI 2 := by decide +kernel
  rw [nI_pred, e]
  by_cases h1 : m < 2
  · rw [if_pos (nI_lt h1 (by decide))]
    congr 1
    omega
  · rw [if_neg (nI_nlt (by omega) (by omega))]
    congr 1
    omega
theorem cf_min2 {n z : Nat} (hn : n < 100) (hz : z < 100) : (if nI z < nI (2 * n) then nI z else nI (2 * n)) = nI (min (2 * n) z) := by
  by_cases h1 : z < 2 * n
  · rw [if_pos (nI_lt h1 (by omega))]
    congr 1
    omega
  · rw [if_neg (nI_nlt (by omega) (by omega))]
    congr 1
    omega
theorem lp_R_follow {w : cf_Wd} {V : Int32 → Int32} {ch : Int32} (hV : ∀ t, t < 256 → w 12 t = V (1000 + nI t)) : ∀ fu rd s n g, rd + fu = 64 → s < 256 → 2 ≤ n → n ≤ 8 → (n ≤ cf_pop s ∨ cf_pop s ≤ 1) → g 1 = nI s → g 2 = nI n → ∀ l3 l4 l5, cf_wp T_R_follow (12, [some (.inr 11), some (.inl ch), some (.inl (nI rd)), l3, l4, l5], [], cf_wa w 11 g) (cf_qi (fun x w1 => x = (cf_rd V fu s n).1 ∧ ∃ g', w1 = cf_wa w 11 g' ∧ g' 1 = (cf_rd V fu s n).2)) := by
  intro fu
  have e64 : (64 : Int32) = nI 64 := by decide +kernel
  have h8 := cf_pop8
  induction fu with
  | zero =>
    intro rd s n g hr hs hn2 hn8 hns g1 g2 l3 l4 l5
    have e : rd = 64 := by omega
    subst e
    have hc : ((64 : Int32) ≤ nI 64) = True := eq_true (by decide +kernel)
    refine r_R_follow_12.mpr ?_
    simp only [r_R_follow_13, r_R_follow_15, hc, ↓reduceIte, r_R_follow_140, r_R_follow_141]
    exact ⟨(by first | rfl | trivial), g, rfl, g1⟩
  | succ fu ih =>
    intro rd s n g hr hs hn2 hn8 hns g1 g2 l3 l4 l5
    have hc : ((64 : Int32) ≤ nI rd) = False := by
      rw [e64]
      exact eq_false (nI_ge (by omega) (by decide))
    have hp8 := h8 s hs
    have hbc : cf_bc (nI s) = nI (cf_pop s) := by rw [cf_bc_e (cf_m14_n (by omega)), cf_pw_n (by omega)]
    have w11 : cf_wa w 11 g 11 = g := cf_wa_s _ _ _
    have w12 : cf_wa w 11 g 12 = w 12 := cf_wa_n _ _ (by decide)
    refine r_R_follow_12.mpr ?_
    by_cases hp1 : cf_pop s ≤ 1
    · rw [cf_rd_1 hp1]
      have hl : ¬ 1 < cf_pop s := by omega
      simp only [r_R_follow_0, r_R_follow_1, r_R_follow_2, r_R_follow_5, r_R_follow_6, r_R_follow_7, r_R_follow_10, r_R_follow_11, r_R_follow_13, r_R_follow_15, r_R_follow_18, r_R_follow_19, c_R_follow_22 sp_J_bitCount, r_R_follow_25, r_R_follow_26, r_R_follow_27, r_R_follow_28, r_R_follow_31, r_R_follow_32, r_R_follow_33, r_R_follow_34, r_R_follow_36, r_R_follow_37, r_R_follow_38, r_R_follow_39, r_R_follow_42, r_R_follow_44, r_R_follow_46, r_R_follow_49, r_R_follow_50, r_R_follow_52, r_R_follow_53, r_R_follow_54, r_R_follow_55, r_R_follow_58, r_R_follow_60, r_R_follow_62, r_R_follow_65, r_R_follow_66, r_R_follow_69, r_R_follow_70, r_R_follow_73, r_R_follow_74, r_R_follow_75, r_R_follow_76, r_R_follow_77, r_R_follow_78, r_R_follow_81, r_R_follow_82, r_R_follow_83, r_R_follow_86, r_R_follow_89, r_R_follow_92, r_R_follow_93, r_R_follow_96, r_R_follow_98, r_R_follow_99, r_R_follow_102, r_R_follow_104, r_R_follow_105, r_R_follow_106, r_R_follow_108, r_R_follow_111, r_R_follow_112, r_R_follow_114, r_R_follow_117, r_R_follow_118, r_R_follow_121, r_R_follow_122, r_R_follow_123, r_R_follow_124, r_R_follow_127, r_R_follow_130, r_R_follow_131, r_R_follow_134, r_R_follow_137, r_R_follow_140, r_R_follow_141, hc, ↓reduceIte, cf_wa_s, cf_wa_n, pk_us, pk_un, ne_eq, Nat.reduceEqDiff, not_false_eq_true, reduceCtorEq, g1, hbc, cf_1lt (show cf_pop s < 2 ^ 31 by omega), hl]
      exact ⟨(by first | rfl | trivial), g, rfl, g1⟩
    · have hl : 1 < cf_pop s := by omega
      have hnp : n ≤ cf_pop s := by omega
      have hK := fun rest i (hi : i < n) => cf_pKs hs hn2 hnp hi rest
      have hVn : ∀ rest i, i < n → ∃ t, t < 256 ∧ cf_sn (nI s) (nI n) rest (nI i) = nI t ∧ w 12 t = V (1000 + nI t) := fun rest i hi => by
        obtain ⟨t, t1, t2, t3, _⟩ := hK rest i hi
        exact ⟨t, t1, t3, hV t t1⟩
      have hA := sp_R_firstNotHarmless (w := cf_wa w 11 g) (V := V) (n := n) (z := cf_pop s) (rest := false) (by omega) (by omega) (by rw [w11]; exact g2) (by rw [w11, g1, cf_pw_n (by omega)]) (by rw [w11, w12, g1]; exact hVn false)
      have hB := sp_R_firstNotHarmless (w := cf_wa w 11 g) (V := V) (n := n) (z := cf_pop s) (rest := true) (by omega) (by omega) (by rw [w11]; exact g2) (by rw [w11, g1, cf_pw_n (by omega)]) (by rw [w11, w12, g1]; exact hVn true)
      rw [w11, g1, show cf_b false = 0 from rfl] at hA
      rw [w11, g1, show cf_b true = 1 from rfl] at hB
      cases hfa : cf_ff V (nI s) (nI n) false n 0 with
      | some j =>
        rw [hfa] at hA
        obtain ⟨⟨_, hj⟩, hv⟩ := cf_ff_i _ _ _ hfa
        obtain ⟨t, t1, t2, t3, t4, _⟩ := hK false j (by omega)
        have hA : F_R_firstNotHarmless [.inr 11, .inl 0, .inl (nI (cf_pop s))] (cf_wa w 11 g) = some (some (.inl (nI t)), cf_wa w 11 g) := by rw [← t3]; exact hA
        have tne : (nI t = 0) = False := eq_false (nI_ne0 t2 (by omega))
        rw [cf_rd_a hp1 hfa, t3, cf_nIt t1]
        rw [t3] at hv
        simp only [r_R_follow_0, r_R_follow_1, r_R_follow_2, r_R_follow_5, r_R_follow_6, r_R_follow_7, r_R_follow_10, r_R_follow_11, r_R_follow_13, r_R_follow_15, r_R_follow_18, r_R_follow_19, c_R_follow_22 sp_J_bitCount, r_R_follow_25, r_R_follow_26, r_R_follow_27, r_R_follow_28, r_R_follow_31, r_R_follow_32, r_R_follow_33, r_R_follow_34, r_R_follow_36, r_R_follow_37, r_R_follow_38, c_R_follow_39 (hA), r_R_follow_42, r_R_follow_44, r_R_follow_46, r_R_follow_49, r_R_follow_50, r_R_follow_52, r_R_follow_53, r_R_follow_54, r_R_follow_55, r_R_follow_58, r_R_follow_60, r_R_follow_62, r_R_follow_65, r_R_follow_66, r_R_follow_69, r_R_follow_70, r_R_follow_73, r_R_follow_74, r_R_follow_75, r_R_follow_76, r_R_follow_77, r_R_follow_78, r_R_follow_81, r_R_follow_82, r_R_follow_83, r_R_follow_86, r_R_follow_89, r_R_follow_92, r_R_follow_93, r_R_follow_96, r_R_follow_98, r_R_follow_99, r_R_follow_102, r_R_follow_104, r_R_follow_105, r_R_follow_106, r_R_follow_108, r_R_follow_111, r_R_follow_112, r_R_follow_114, r_R_follow_117, r_R_follow_118, r_R_follow_121, r_R_follow_122, r_R_follow_123, r_R_follow_124, r_R_follow_127, r_R_follow_130, r_R_follow_131, r_R_follow_134, r_R_follow_137, r_R_follow_140, r_R_follow_141, hc, ↓reduceIte, cf_wa_s, cf_wa_n, pk_us, pk_un, ne_eq, Nat.reduceEqDiff, not_false_eq_true, reduceCtorEq, g1, g2, hbc, cf_1lt (show cf_pop s < 2 ^ 31 by omega), hl, tne, not_false_eq_true, cf_in_nI t1 (by decide), nI_clamp (show t < 2 ^ 31 by omega), true_and, hV t t1, nI_1, cf_wa_wa]
        by_cases hv0 : V (1000 + nI t) = 0
        · rw [if_neg (fun x => x hv0), if_pos hv0]
          exact ⟨(by first | rfl | trivial), g, rfl, g1⟩
        · rw [if_pos hv0, if_neg hv0]
          refine ih (rd + 1) t 2 _ (by omega) t1 (by omega) (by omega) (by omega) ?_ ?_ _ _ _
          · simp [upd]
          · simp [upd]
            decide +kernel
      | none =>
        rw [hfa] at hA
        cases hfb : cf_ff V (nI s) (nI n) true n 0 with
        | some j =>
          rw [hfb] at hB
          obtain ⟨⟨_, hj⟩, hv⟩ := cf_ff_i _ _ _ hfb
          obtain ⟨t, t1, t2, t3, t4, t5⟩ := hK true j (by omega)
          have hB : F_R_firstNotHarmless [.inr 11, .inl 1, .inl (nI (cf_pop s))] (cf_wa w 11 g) = some (some (.inl (nI t)), cf_wa w 11 g) := by rw [← t3]; exact hB
          have tne : (nI t = 0) = False := eq_false (nI_ne0 t2 (by omega))
          rw [cf_rd_b hp1 hfa hfb, t3, cf_nIt t1]
          rw [t3] at hv
          simp only [r_R_follow_0, r_R_follow_1, r_R_follow_2, r_R_follow_5, r_R_follow_6, r_R_follow_7, r_R_follow_10, r_R_follow_11, r_R_follow_13, r_R_follow_15, r_R_follow_18, r_R_follow_19, c_R_follow_22 sp_J_bitCount, r_R_follow_25, r_R_follow_26, r_R_follow_27, r_R_follow_28, r_R_follow_31, r_R_follow_32, r_R_follow_33, r_R_follow_34, r_R_follow_36, r_R_follow_37, r_R_follow_38, c_R_follow_39 (hA), r_R_follow_42, r_R_follow_44, r_R_follow_46, r_R_follow_49, r_R_follow_50, r_R_follow_52, r_R_follow_53, r_R_follow_54, c_R_follow_55 (hB), r_R_follow_58, r_R_follow_60, r_R_follow_62, r_R_follow_65, r_R_follow_66, r_R_follow_69, r_R_follow_70, r_R_follow_73, r_R_follow_74, r_R_follow_75, r_R_follow_76, r_R_follow_77, r_R_follow_78, r_R_follow_81, r_R_follow_82, r_R_follow_83, r_R_follow_86, r_R_follow_89, r_R_follow_92, r_R_follow_93, r_R_follow_96, r_R_follow_98, r_R_follow_99, r_R_follow_102, r_R_follow_104, r_R_follow_105, r_R_follow_106, r_R_follow_108, r_R_follow_111, r_R_follow_112, r_R_follow_114, r_R_follow_117, r_R_follow_118, r_R_follow_121, r_R_follow_122, r_R_follow_123, r_R_follow_124, r_R_follow_127, r_R_follow_130, r_R_follow_131, r_R_follow_134, r_R_follow_137, r_R_follow_140, r_R_follow_141, hc, ↓reduceIte, cf_wa_s, cf_wa_n, pk_us, pk_un, ne_eq, Nat.reduceEqDiff, not_false_eq_true, reduceCtorEq, g1, g2, hbc, cf_1lt (show cf_pop s < 2 ^ 31 by omega), hl, tne, not_true_eq_false, not_false_eq_true, cf_in_nI t1 (by decide), nI_clamp (show t < 2 ^ 31 by omega), true_and, hV t t1, nI_1, cf_wa_wa, cf_q_0_1, cf_q_0_2, cf_q_0_3, cf_q_0_4, cf_q_0_5, cf_q_0_6, cf_q_0_7, cf_q_0_8, cf_q_0_9, cf_q_1_0, cf_q_1_2, cf_q_1_3, cf_q_1_4, cf_q_1_5, cf_q_1_6, cf_q_1_7, cf_q_1_8, cf_q_1_9, cf_q_2_0, cf_q_2_1, cf_q_2_3, cf_q_2_4, cf_q_2_5, cf_q_2_6, cf_q_2_7, cf_q_2_8, cf_q_2_9, cf_q_3_0, cf_q_3_1, cf_q_3_2, cf_q_3_4, cf_q_3_5, cf_q_3_6, cf_q_3_7, cf_q_3_8, cf_q_3_9, cf_q_4_0, cf_q_4_1, cf_q_4_2, cf_q_4_3, cf_q_4_5, cf_q_4_6, cf_q_4_7, cf_q_4_8, cf_q_4_9, cf_q_5_0, cf_q_5_1, cf_q_5_2, cf_q_5_3, cf_q_5_4, cf_q_5_6, cf_q_5_7, cf_q_5_8, cf_q_5_9, cf_q_6_0, cf_q_6_1, cf_q_6_2, cf_q_6_3, cf_q_6_4, cf_q_6_5, cf_q_6_7, cf_q_6_8, cf_q_6_9, cf_q_7_0, cf_q_7_1, cf_q_7_2, cf_q_7_3, cf_q_7_4, cf_q_7_5, cf_q_7_6, cf_q_7_8, cf_q_7_9, cf_q_8_0, cf_q_8_1, cf_q_8_2, cf_q_8_3, cf_q_8_4, cf_q_8_5, cf_q_8_6, cf_q_8_7, cf_q_8_9, cf_q_9_0, cf_q_9_1, cf_q_9_2, cf_q_9_3, cf_q_9_4, cf_q_9_5, cf_q_9_6, cf_q_9_7, cf_q_9_8, cf_max1 hn2 (show n < 100 by omega)]
          by_cases hv0 : V (1000 + nI t) = 0
          · rw [if_neg (fun x => x hv0), if_pos hv0]
            exact ⟨(by first | rfl | trivial), g, rfl, g1⟩
          · rw [if_pos hv0, if_neg hv0]
            have := t5 rfl
            refine ih (rd + 1) t (max (n - 1) 2) _ (by omega) t1 (by omega) (by omega) (by omega) ?_ ?_ _ _ _
            · simp [upd]
            · simp [upd]
        | none =>
          rw [hfb] at hB
          rw [cf_rd_c hp1 hfa hfb]
          have hlt : (nI n < nI (cf_pop s)) = (n < cf_pop s) := propext (nI_ltI (by omega) (by omega))
          simp only [r_R_follow_0, r_R_follow_1, r_R_follow_2, r_R_follow_5, r_R_follow_6, r_R_follow_7, r_R_follow_10, r_R_follow_11, r_R_follow_13, r_R_follow_15, r_R_follow_18, r_R_follow_19, c_R_follow_22 sp_J_bitCount, r_R_follow_25, r_R_follow_26, r_R_follow_27, r_R_follow_28, r_R_follow_31, r_R_follow_32, r_R_follow_33, r_R_follow_34, r_R_follow_36, r_R_follow_37, r_R_follow_38, c_R_follow_39 (hA), r_R_follow_42, r_R_follow_44, r_R_follow_46, r_R_follow_49, r_R_follow_50, r_R_follow_52, r_R_follow_53, r_R_follow_54, c_R_follow_55 (hB), r_R_follow_58, r_R_follow_60, r_R_follow_62, r_R_follow_65, r_R_follow_66, r_R_follow_69, r_R_follow_70, r_R_follow_73, r_R_follow_74, r_R_follow_75, r_R_follow_76, r_R_follow_77, r_R_follow_78, r_R_follow_81, r_R_follow_82, r_R_follow_83, r_R_follow_86, r_R_follow_89, r_R_follow_92, r_R_follow_93, r_R_follow_96, r_R_follow_98, r_R_follow_99, r_R_follow_102, r_R_follow_104, r_R_follow_105, r_R_follow_106, r_R_follow_108, r_R_follow_111, r_R_follow_112, r_R_follow_114, r_R_follow_117, r_R_follow_118, r_R_follow_121, r_R_follow_122, r_R_follow_123, r_R_follow_124, r_R_follow_127, r_R_follow_130, r_R_follow_131, r_R_follow_134, r_R_follow_137, r_R_follow_140, r_R_follow_141, hc, ↓reduceIte, cf_wa_s, cf_wa_n, pk_us, pk_un, ne_eq, Nat.reduceEqDiff, not_false_eq_true, reduceCtorEq, g1, g2, hbc, cf_1lt (show cf_pop s < 2 ^ 31 by omega), hl, not_true_eq_false, nI_1, cf_wa_wa, hlt, cf_2m, cf_min2 (show n < 100 by omega) (show cf_pop s < 100 by omega)]
          by_cases hns2 : cf_pop s ≤ n
          · rw [if_pos hns2, if_neg (by omega)]
            exact ⟨(by first | rfl | trivial), g, rfl, g1⟩
          · rw [if_neg hns2, if_pos (by omega)]
            refine ih (rd + 1) s (min (2 * n) (cf_pop s)) _ (by omega) hs (by omega) (by omega) (by omega) ?_ ?_ _ _ _
            · simp [upd, g1]
            · simp [upd]
theorem sp_R_follow {w : cf_Wd} {V : Int32 → Int32} {s : Nat} (hs : s < 256) (hV : ∀ t, t < 256 → w 12 t = V (1000 + nI t)) : ∃ x w1, F_R_follow [.inr 11, .inl (nI s)] w = some (some (.inl x), w1) ∧ (x = (cf_rd V 64 s 2).1 ∧ ∃ g', w1 = cf_wa w 11 g' ∧ g' 1 = (cf_rd V 64 s 2).2) := by
  refine e_R_follow ?_
  simp only [r_R_follow_0, r_R_follow_1, r_R_follow_2, r_R_follow_5, r_R_follow_6, r_R_follow_7, r_R_follow_10, r_R_follow_11, r_R_follow_13, r_R_follow_15, r_R_follow_18, r_R_follow_19, c_R_follow_22 sp_J_bitCount, r_R_follow_25, r_R_follow_26, r_R_follow_27, r_R_follow_28, r_R_follow_31, r_R_follow_32, r_R_follow_33, r_R_follow_34, r_R_follow_36, r_R_follow_37, r_R_follow_38, r_R_follow_39, r_R_follow_42, r_R_follow_44, r_R_follow_46, r_R_follow_49, r_R_follow_50, r_R_follow_52, r_R_follow_53, r_R_follow_54, r_R_follow_55, r_R_follow_58, r_R_follow_60, r_R_follow_62, r_R_follow_65, r_R_follow_66, r_R_follow_69, r_R_follow_70, r_R_follow_73, r_R_follow_74, r_R_follow_75, r_R_follow_76, r_R_follow_77, r_R_follow_78, r_R_follow_81, r_R_follow_82, r_R_follow_83, r_R_follow_86, r_R_follow_89, r_R_follow_92, r_R_follow_93, r_R_follow_96, r_R_follow_98, r_R_follow_99, r_R_follow_102, r_R_follow_104, r_R_follow_105, r_R_follow_106, r_R_follow_108, r_R_follow_111, r_R_follow_112, r_R_follow_114, r_R_follow_117, r_R_follow_118, r_R_follow_121, r_R_follow_122, r_R_follow_123, r_R_follow_124, r_R_follow_127, r_R_follow_130, r_R_follow_131, r_R_follow_134, r_R_follow_137, r_R_follow_140, r_R_follow_141, cf_wa_s, cf_wa_n, pk_us, pk_un, ne_eq, Nat.reduceEqDiff, not_false_eq_true, reduceCtorEq, cf_wa_wa]
  have e2 : (2 : Int32) = nI 2 := by decide +kernel
  have h := lp_R_follow (w := w) (ch := nI s) hV 64 0 s 2 (upd (upd (w 11) 1 (nI s)) 2 2) (by omega) hs (by omega) (by omega) (by omega) (by simp [upd]) (by rw [pk_us]; exact e2) none none none
  rw [nI_0] at h
  exact h
/-! the reference: failing, reduce -/
theorem sp_P_askSet {w : cf_Wd} {f : Nat → Int32} {s all : Int32} {m : Nat} (hm : m ≤ 600) (hf : f 11 = nI m) (hne : s ≠ all) : F_P_askSet [.inr 15, .inl s, .inl all] (cf_wa w 15 f) = some (some (.inl (cf_kn (w 20) (w 21) (1000 + s) m)), cf_wa w 15 (upd f 19 (if cf_kn (w 20) (w 21) (1000 + s) m = 0 then 1000 + s else f 19))) := by
  refine cf_is (e_P_askSet ?_)
  simp only [r_P_askSet_0, r_P_askSet_1, r_P_askSet_2, r_P_askSet_5, r_P_askSet_6, r_P_askSet_9, r_P_askSet_10, r_P_askSet_13, r_P_askSet_14, c_P_askSet_15 (sp_P_ask hm hf), r_P_askSet_18, hne, not_false_eq_true, ↓reduceIte, and_self]
theorem lp_P_failing {w : cf_Wd} {s n m : Nat} {all : Int32} {rest : Bool} (hm : m ≤ 600) (hs : s < 256) (hn0 : 0 < n) (hn : n < 2 ^ 31) (hne : ∀ i, i < n → cf_sn (nI s) (nI n) rest (nI i) ≠ all) : ∀ d i f, i + d = n → f 11 = nI m → f 22 = nI s → ∀ l5 l6, cf_wp T_P_failing (3, [some (.inr 15), some (.inl (nI n)), some (.inl (cf_b rest)), some (.inl all), some (.inl (nI i)), l5, l6], [], cf_wa w 15 f) (cf_qi (fun x w1 => ∃ f', w1 = cf_wa w 15 f' ∧ (∀ k, k ≠ 19 → f' k = f k) ∧ (match cf_ff (fun t => cf_kn (w 20) (w 21) t m) (nI s) (nI n) rest d i with
    | some j => (cf_kn (w 20) (w 21) (1000 + cf_sn (nI s) (nI n) rest (nI j)) m = 0 ∧ x = -1 ∧ f' 19 = 1000 + cf_sn (nI s) (nI n) rest (nI j)) ∨ (cf_kn (w 20) (w 21) (1000 + cf_sn (nI s) (nI n) rest (nI j)) m ≠ 0 ∧ x = nI j ∧ f' 19 = f 19)
    | none => x = nI n ∧ f' 19 = f 19))) := by
  intro d
  induction d with
  | zero =>
    intro i f hi h11 h22 l5 l6
    have e : i = n := by omega
    subst e
    have hc : (nI i ≤ nI i) = True := eq_true (nI_le (Nat.le_refl i) hn)
    refine r_P_failing_3.mpr ?_
    simp only [r_P_failing_5, r_P_failing_6, hc, ↓reduceIte, r_P_failing_72, r_P_failing_73]
    exact ⟨f, rfl, fun k _ => rfl, (by first | rfl | trivial), rfl⟩
  | succ d ih =>
    intro i f hi h11 h22 l5 l6
    have hc : (nI n ≤ nI i) = False := eq_false (nI_ge (by omega) hn)
    have hm14 : cf_m14 (nI s) := cf_m14_n (by omega)
    have hpc := fun w => sp_P_piece (w := w) (i := nI i) hm14 (cf_nz hn0 hn)
    have hask := sp_P_askSet (w := w) (f := f) (all := all) hm h11 (hne i (by omega))
    refine r_P_failing_3.mpr ?_
    have fin : cf_wp T_P_failing (41, [some (.inr 15), some (.inl (nI n)), some (.inl (cf_b rest)), some (.inl all), some (.inl (nI i)), some (.inl (cf_sn (nI s) (nI n) rest (nI i))), l6], [], cf_wa w 15 f) (cf_qi (fun x w1 => ∃ f', w1 = cf_wa w 15 f' ∧ (∀ k, k ≠ 19 → f' k = f k) ∧ (match cf_ff (fun t => cf_kn (w 20) (w 21) t m) (nI s) (nI n) rest (d + 1) i with
        | some j => (cf_kn (w 20) (w 21) (1000 + cf_sn (nI s) (nI n) rest (nI j)) m = 0 ∧ x = -1 ∧ f' 19 = 1000 + cf_sn (nI s) (nI n) rest (nI j)) ∨ (cf_kn (w 20) (w 21) (1000 + cf_sn (nI s) (nI n) rest (nI j)) m ≠ 0 ∧ x = nI j ∧ f' 19 = f 19)
        | none => x = nI n ∧ f' 19 = f 19))) := by
      by_cases h0 : cf_kn (w 20) (w 21) (1000 + cf_sn (nI s) (nI n) rest (nI i)) m = 0
      · rw [show cf_ff (fun t => cf_kn (w 20) (w 21) t m) (nI s) (nI n) rest (d + 1) i = some i from if_pos (Or.inl h0)]
        rw [if_pos h0, h0] at hask
        simp only [r_P_failing_0, r_P_failing_1, r_P_failing_5, r_P_failing_6, r_P_failing_9, r_P_failing_10, r_P_failing_13, r_P_failing_15, r_P_failing_16, r_P_failing_19, r_P_failing_21, r_P_failing_22, r_P_failing_25, r_P_failing_26, r_P_failing_29, r_P_failing_31, r_P_failing_32, r_P_failing_33, r_P_failing_34, r_P_failing_37, r_P_failing_39, r_P_failing_41, r_P_failing_42, r_P_failing_44, c_P_failing_45 (hask), r_P_failing_48, r_P_failing_50, r_P_failing_52, r_P_failing_55, r_P_failing_56, r_P_failing_57, r_P_failing_59, r_P_failing_60, r_P_failing_63, r_P_failing_65, r_P_failing_66, r_P_failing_69, r_P_failing_72, r_P_failing_73, not_true_eq_false, ↓reduceIte]
        exact ⟨_, rfl, fun k hk => pk_un hk, Or.inl ⟨h0, trivial, pk_us⟩⟩
      · rw [if_neg h0] at hask
        by_cases h2 : cf_kn (w 20) (w 21) (1000 + cf_sn (nI s) (nI n) rest (nI i)) m = 2
        · rw [show cf_ff (fun t => cf_kn (w 20) (w 21) t m) (nI s) (nI n) rest (d + 1) i = some i from if_pos (Or.inr h2)]
          rw [h2] at hask
          simp only [r_P_failing_0, r_P_failing_1, r_P_failing_5, r_P_failing_6, r_P_failing_9, r_P_failing_10, r_P_failing_13, r_P_failing_15, r_P_failing_16, r_P_failing_19, r_P_failing_21, r_P_failing_22, r_P_failing_25, r_P_failing_26, r_P_failing_29, r_P_failing_31, r_P_failing_32, r_P_failing_33, r_P_failing_34, r_P_failing_37, r_P_failing_39, r_P_failing_41, r_P_failing_42, r_P_failing_44, c_P_failing_45 (hask), r_P_failing_48, r_P_failing_50, r_P_failing_52, r_P_failing_55, r_P_failing_56, r_P_failing_57, r_P_failing_59, r_P_failing_60, r_P_failing_63, r_P_failing_65, r_P_failing_66, r_P_failing_69, r_P_failing_72, r_P_failing_73, cf_q_0_1, cf_q_0_2, cf_q_0_3, cf_q_0_4, cf_q_0_5, cf_q_0_6, cf_q_0_7, cf_q_0_8, cf_q_0_9, cf_q_1_0, cf_q_1_2, cf_q_1_3, cf_q_1_4, cf_q_1_5, cf_q_1_6, cf_q_1_7, cf_q_1_8, cf_q_1_9, cf_q_2_0, cf_q_2_1, cf_q_2_3, cf_q_2_4, cf_q_2_5, cf_q_2_6, cf_q_2_7, cf_q_2_8, cf_q_2_9, cf_q_3_0, cf_q_3_1, cf_q_3_2, cf_q_3_4, cf_q_3_5, cf_q_3_6, cf_q_3_7, cf_q_3_8, cf_q_3_9, cf_q_4_0, cf_q_4_1, cf_q_4_2, cf_q_4_3, cf_q_4_5, cf_q_4_6, cf_q_4_7, cf_q_4_8, cf_q_4_9, cf_q_5_0, cf_q_5_1, cf_q_5_2, cf_q_5_3, cf_q_5_4, cf_q_5_6, cf_q_5_7, cf_q_5_8, cf_q_5_9, cf_q_6_0, cf_q_6_1, cf_q_6_2, cf_q_6_3, cf_q_6_4, cf_q_6_5, cf_q_6_7, cf_q_6_8, cf_q_6_9, cf_q_7_0, cf_q_7_1, cf_q_7_2, cf_q_7_3, cf_q_7_4, cf_q_7_5, cf_q_7_6, cf_q_7_8, cf_q_7_9, cf_q_8_0, cf_q_8_1, cf_q_8_2, cf_q_8_3, cf_q_8_4, cf_q_8_5, cf_q_8_6, cf_q_8_7, cf_q_8_9, cf_q_9_0, cf_q_9_1, cf_q_9_2, cf_q_9_3, cf_q_9_4, cf_q_9_5, cf_q_9_6, cf_q_9_7, cf_q_9_8, not_true_eq_false, not_false_eq_true, ↓reduceIte]
          exact ⟨_, rfl, fun k hk => pk_un hk, Or.inr ⟨h0, trivial, pk_us⟩⟩
        · rw [show cf_ff (fun t => cf_kn (w 20) (w 21) t m) (nI s) (nI n) rest (d + 1) i = cf_ff (fun t => cf_kn (w 20) (w 21) t m) (nI s) (nI n) rest d (i + 1) from if_neg (fun x => x.elim h0 h2)]
          have ih1 := fun l5 l6 => ih (i + 1) (upd f 19 (f 19)) (by omega) (by simp [upd, h11]) (by simp [upd, h22]) l5 l6
          have eu : upd f 19 (f 19) = f := by
            funext k
            unfold upd
            by_cases e : k = 19 <;> simp [e]
          rw [eu] at hask ih1
          simp only [r_P_failing_0, r_P_failing_1, r_P_failing_5, r_P_failing_6, r_P_failing_9, r_P_failing_10, r_P_failing_13, r_P_failing_15, r_P_failing_16, r_P_failing_19, r_P_failing_21, r_P_failing_22, r_P_failing_25, r_P_failing_26, r_P_failing_29, r_P_failing_31, r_P_failing_32, r_P_failing_33, r_P_failing_34, r_P_failing_37, r_P_failing_39, r_P_failing_41, r_P_failing_42, r_P_failing_44, c_P_failing_45 (hask), r_P_failing_48, r_P_failing_50, r_P_failing_52, r_P_failing_55, r_P_failing_56, r_P_failing_57, r_P_failing_59, r_P_failing_60, r_P_failing_63, r_P_failing_65, r_P_failing_66, r_P_failing_69, r_P_failing_72, r_P_failing_73, h0, h2, not_false_eq_true, ↓reduceIte, nI_1]
          exact ih1 _ _
    cases rest
    · simp only [r_P_failing_0, r_P_failing_1, r_P_failing_5, r_P_failing_6, r_P_failing_9, r_P_failing_10, r_P_failing_13, r_P_failing_15, c_P_failing_16 (hpc _), r_P_failing_19, r_P_failing_21, r_P_failing_22, r_P_failing_25, r_P_failing_26, r_P_failing_29, r_P_failing_31, r_P_failing_32, r_P_failing_33, r_P_failing_34, r_P_failing_37, r_P_failing_39, r_P_failing_42, r_P_failing_44, r_P_failing_45, r_P_failing_48, r_P_failing_50, r_P_failing_52, r_P_failing_55, r_P_failing_56, r_P_failing_57, r_P_failing_59, r_P_failing_60, r_P_failing_63, r_P_failing_65, r_P_failing_66, r_P_failing_69, r_P_failing_72, r_P_failing_73, hc, ↓reduceIte, cf_wa_s, cf_wa_n, pk_us, pk_un, ne_eq, Nat.reduceEqDiff, not_false_eq_true, reduceCtorEq, h22, cf_b_e0]
      exact fin
    · simp only [r_P_failing_0, r_P_failing_1, r_P_failing_5, r_P_failing_6, r_P_failing_9, r_P_failing_10, r_P_failing_13, r_P_failing_15, c_P_failing_16 (hpc _), r_P_failing_19, r_P_failing_21, r_P_failing_22, r_P_failing_25, r_P_failing_26, r_P_failing_29, r_P_failing_31, r_P_failing_32, r_P_failing_33, r_P_failing_34, r_P_failing_37, r_P_failing_39, r_P_failing_42, r_P_failing_44, r_P_failing_45, r_P_failing_48, r_P_failing_50, r_P_failing_52, r_P_failing_55, r_P_failing_56, r_P_failing_57, r_P_failing_59, r_P_failing_60, r_P_failing_63, r_P_failing_65, r_P_failing_66, r_P_failing_69, r_P_failing_72, r_P_failing_73, hc, ↓reduceIte, cf_wa_s, cf_wa_n, pk_us, pk_un, ne_eq, Nat.reduceEqDiff, not_false_eq_true, reduceCtorEq, h22, cf_b_e0, reduceCtorEq]
      exact fin
theorem sp_P_failing {w : cf_Wd} {s n m : Nat} {all : Int32} {rest : Bool} (hm : m ≤ 600) (hs : s < 256) (hn0 : 0 < n) (hn : n < 2 ^ 31) (hne : ∀ i, i < n → cf_sn (nI s) (nI n) rest (nI i) ≠ all) {f : Nat → Int32} (h11 : f 11 = nI m) (h22 : f 22 = nI s) : ∃ x w1, F_P_failing [.inr 15, .inl (nI n), .inl (cf_b rest), .inl all] (cf_wa w 15 f) = some (some (.inl x), w1) ∧ (∃ f', w1 = cf_wa w 15 f' ∧ (∀ k, k ≠ 19 → f' k = f k) ∧ (match cf_ff (fun t => cf_kn (w 20) (w 21) t m) (nI s) (nI n) rest n 0 with
    | some j => (cf_kn (w 20) (w 21) (1000 + cf_sn (nI s) (nI n) rest (nI j)) m = 0 ∧ x = -1 ∧ f' 19 = 1000 + cf_sn (nI s) (nI n) rest (nI j)) ∨ (cf_kn (w 20) (w 21) (1000 + cf_sn (nI s) (nI n) rest (nI j)) m ≠ 0 ∧ x = nI j ∧ f' 19 = f 19)
    | none => x = nI n ∧ f' 19 = f 19)) := by
  refine e_P_failing ?_
  simp only [r_P_failing_0, r_P_failing_1]
  have h := lp_P_failing (w := w) hm hs hn0 hn hne n 0 f (by omega) h11 h22 none none
  rw [nI_0] at h
  exact h
