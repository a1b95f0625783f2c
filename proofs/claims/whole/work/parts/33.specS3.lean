theorem pl_29 {w : cf_Wd} {P : cf_Wd → Prop} : cf_wp T_S_plan (29, [some (.inr 10)], [], w) (cf_qv P) ↔ (if ¬ w 10 6 = 3 then P w else ∃ w1, F_S_planReducing [.inr 10] w = some (none, w1) ∧ P w1) := by
  simp only [r_S_plan_0, r_S_plan_1, r_S_plan_2, r_S_plan_5, r_S_plan_6, r_S_plan_9, r_S_plan_10, r_S_plan_13, r_S_plan_14, r_S_plan_17, r_S_plan_18, r_S_plan_21, r_S_plan_22, r_S_plan_25, r_S_plan_26, r_S_plan_29, r_S_plan_30, r_S_plan_33, r_S_plan_34, r_S_plan_37, r_S_plan_38, r_S_plan_41]
theorem pl_17 {w : cf_Wd} {P : cf_Wd → Prop} : cf_wp T_S_plan (17, [some (.inr 10)], [], w) (cf_qv P) ↔ (if ¬ w 10 6 = 2 then cf_wp T_S_plan (29, [some (.inr 10)], [], w) (cf_qv P) else ∃ w1, F_S_planHalving [.inr 10] w = some (none, w1) ∧ cf_wp T_S_plan (29, [some (.inr 10)], [], w1) (cf_qv P)) := by
  simp only [r_S_plan_0, r_S_plan_1, r_S_plan_2, r_S_plan_5, r_S_plan_6, r_S_plan_9, r_S_plan_10, r_S_plan_13, r_S_plan_14, r_S_plan_17, r_S_plan_18, r_S_plan_21, r_S_plan_22, r_S_plan_25, r_S_plan_26, r_S_plan_30, r_S_plan_33, r_S_plan_34, r_S_plan_37, r_S_plan_38, r_S_plan_41]
theorem pl_0 {w : cf_Wd} {P : cf_Wd → Prop} : cf_wp T_S_plan (0, [some (.inr 10)], [], w) (cf_qv P) ↔ (if ¬ w 10 6 = 1 then cf_wp T_S_plan (17, [some (.inr 10)], [], cf_wa w 10 (upd (w 10) 14 (-1))) (cf_qv P) else ∃ w1, F_S_planEnds [.inr 10] (cf_wa w 10 (upd (w 10) 14 (-1))) = some (none, w1) ∧ cf_wp T_S_plan (17, [some (.inr 10)], [], w1) (cf_qv P)) := by
  simp only [r_S_plan_0, r_S_plan_1, r_S_plan_2, r_S_plan_5, r_S_plan_6, r_S_plan_9, r_S_plan_10, r_S_plan_13, r_S_plan_14, r_S_plan_18, r_S_plan_21, r_S_plan_22, r_S_plan_25, r_S_plan_26, r_S_plan_29, r_S_plan_30, r_S_plan_33, r_S_plan_34, r_S_plan_37, r_S_plan_38, r_S_plan_41, cf_wa_s, cf_wa_n, pk_us, pk_un, ne_eq, Nat.reduceEqDiff, not_false_eq_true, reduceCtorEq]
theorem cf_k0 : (1000 : Int32) = nI 1000 := by decide +kernel
theorem cf_k1 (s : Nat) : 1000 + nI s = nI (1000 + s) := by rw [cf_k0, nI_add]
theorem cf_k2 {c : Nat} (h : c < 14) : (nI c < 1000) = True := by
  rw [cf_k0]
  exact eq_true (nI_lt (by omega) (by decide))
theorem cf_k3 {s : Nat} (h : s < 256) : (nI (1000 + s) < 1000) = False := by
  rw [cf_k0]
  exact eq_false (nI_nlt (by omega) (by omega))
theorem cf_k4 (s : Nat) : nI (1000 + s) - 1000 = nI s := by
  rw [cf_k0, cf_nsub (by omega), Nat.add_sub_cancel_left]
theorem cf_k5 {c : Nat} (h : c < 14) : ((1000 : Int32) ≤ nI c) = False := by
  rw [cf_k0]
  exact eq_false (nI_ge (by omega) (by decide))
theorem cf_k6 {s : Nat} (h : s < 256) : ((1000 : Int32) ≤ nI (1000 + s)) = True := by
  rw [cf_k0]
  exact eq_true (nI_le (by omega) (by omega))
theorem sp_S_keepC {w : cf_Wd} {c : Nat} (hc : c < 14) {v : Int32} : F_S_keepVerdict [.inr 10, .inl (nI c), .inl v] w = some (none, cf_wa (cf_wa w 14 (upd (w 14) c v)) 10 (if v = 2 then upd (w 10) 10 (nI c) else if v = 1 then upd (w 10) 11 (w 10 11 ||| w 3 c) else w 10)) := by
  refine cf_isv (e_S_keepVerdict ?_)
  simp only [r_S_keepVerdict_0, r_S_keepVerdict_1, r_S_keepVerdict_4, r_S_keepVerdict_7, r_S_keepVerdict_8, r_S_keepVerdict_11, r_S_keepVerdict_12, r_S_keepVerdict_15, r_S_keepVerdict_16, r_S_keepVerdict_17, r_S_keepVerdict_20, r_S_keepVerdict_21, r_S_keepVerdict_22, r_S_keepVerdict_25, r_S_keepVerdict_26, r_S_keepVerdict_27, r_S_keepVerdict_28, r_S_keepVerdict_29, r_S_keepVerdict_30, r_S_keepVerdict_33, r_S_keepVerdict_34, r_S_keepVerdict_35, r_S_keepVerdict_38, r_S_keepVerdict_41, r_S_keepVerdict_42, r_S_keepVerdict_43, r_S_keepVerdict_46, r_S_keepVerdict_47, r_S_keepVerdict_48, r_S_keepVerdict_51, r_S_keepVerdict_52, r_S_keepVerdict_55, r_S_keepVerdict_58, r_S_keepVerdict_59, r_S_keepVerdict_60, r_S_keepVerdict_61, r_S_keepVerdict_64, cf_k2 hc, ↓reduceIte, cf_in_nI hc (by decide), nI_clamp (show c < 2 ^ 31 by omega), true_and, cf_wa_s, cf_wa_n, pk_us, pk_un, ne_eq, Nat.reduceEqDiff, not_false_eq_true, reduceCtorEq]
  by_cases h2 : v = 2
  · simp only [h2, not_true_eq_false, ↓reduceIte]
  · by_cases h1 : v = 1
    · simp only [h1, cf_q_0_1, cf_q_0_2, cf_q_0_3, cf_q_0_4, cf_q_0_5, cf_q_0_6, cf_q_0_7, cf_q_0_8, cf_q_0_9, cf_q_1_0, cf_q_1_2, cf_q_1_3, cf_q_1_4, cf_q_1_5, cf_q_1_6, cf_q_1_7, cf_q_1_8, cf_q_1_9, cf_q_2_0, cf_q_2_1, cf_q_2_3, cf_q_2_4, cf_q_2_5, cf_q_2_6, cf_q_2_7, cf_q_2_8, cf_q_2_9, cf_q_3_0, cf_q_3_1, cf_q_3_2, cf_q_3_4, cf_q_3_5, cf_q_3_6, cf_q_3_7, cf_q_3_8, cf_q_3_9, cf_q_4_0, cf_q_4_1, cf_q_4_2, cf_q_4_3, cf_q_4_5, cf_q_4_6, cf_q_4_7, cf_q_4_8, cf_q_4_9, cf_q_5_0, cf_q_5_1, cf_q_5_2, cf_q_5_3, cf_q_5_4, cf_q_5_6, cf_q_5_7, cf_q_5_8, cf_q_5_9, cf_q_6_0, cf_q_6_1, cf_q_6_2, cf_q_6_3, cf_q_6_4, cf_q_6_5, cf_q_6_7, cf_q_6_8, cf_q_6_9, cf_q_7_0, cf_q_7_1, cf_q_7_2, cf_q_7_3, cf_q_7_4, cf_q_7_5, cf_q_7_6, cf_q_7_8, cf_q_7_9, cf_q_8_0, cf_q_8_1, cf_q_8_2, cf_q_8_3, cf_q_8_4, cf_q_8_5, cf_q_8_6, cf_q_8_7, cf_q_8_9, cf_q_9_0, cf_q_9_1, cf_q_9_2, cf_q_9_3, cf_q_9_4, cf_q_9_5, cf_q_9_6, cf_q_9_7, cf_q_9_8, not_true_eq_false, not_false_eq_true, ↓reduceIte]
    · simp only [h1, h2, not_false_eq_true, ↓reduceIte]
      rw [cf_wa_id (w := cf_wa w 14 (upd (w 14) c v)) (k := 10) (by simp only [cf_wa_s, cf_wa_n, pk_us, pk_un, ne_eq, Nat.reduceEqDiff, not_false_eq_true, reduceCtorEq])]
theorem sp_S_keepS {w : cf_Wd} {s : Nat} (hs : s < 256) {v : Int32} : F_S_keepVerdict [.inr 10, .inl (nI (1000 + s)), .inl v] w = some (none, cf_wa w 12 (upd (w 12) s v)) := by
  refine cf_isv (e_S_keepVerdict ?_)
  simp only [r_S_keepVerdict_0, r_S_keepVerdict_1, r_S_keepVerdict_4, r_S_keepVerdict_7, r_S_keepVerdict_8, r_S_keepVerdict_11, r_S_keepVerdict_12, r_S_keepVerdict_15, r_S_keepVerdict_16, c_S_keepVerdict_17 (sp_R_keepVerdict hs), r_S_keepVerdict_20, r_S_keepVerdict_21, r_S_keepVerdict_22, r_S_keepVerdict_25, r_S_keepVerdict_26, r_S_keepVerdict_27, r_S_keepVerdict_28, r_S_keepVerdict_29, r_S_keepVerdict_30, r_S_keepVerdict_33, r_S_keepVerdict_34, r_S_keepVerdict_35, r_S_keepVerdict_38, r_S_keepVerdict_41, r_S_keepVerdict_42, r_S_keepVerdict_43, r_S_keepVerdict_46, r_S_keepVerdict_47, r_S_keepVerdict_48, r_S_keepVerdict_51, r_S_keepVerdict_52, r_S_keepVerdict_55, r_S_keepVerdict_58, r_S_keepVerdict_59, r_S_keepVerdict_60, r_S_keepVerdict_61, r_S_keepVerdict_64, cf_k3 hs, ↓reduceIte, cf_k4]
/-! the programs that are judged: of a commit n; of the set s of the culprit c's lines on its parent p -/
def cf_prC (f : Nat → Int32) (n : Nat) : Nat → Int32 := fun j => if j < 8 then f (8 * n + j) else 0
def cf_prS (f : Nat → Int32) (p c : Nat) (s : Int32) : Nat → Int32 := fun j => if j < 8 then (if bt s j = true then f (8 * c + j) else f (8 * p + j)) else 0
theorem cf_255 : ∀ j, j < 8 → cf_bit 255 (nI j) = true := by decide +kernel
theorem cf_ld_C {w : cf_Wd} {n : Nat} (h6 : ∀ j, 8 ≤ j → w 6 j = 0) : cf_ld w n 255 8 = cf_prC (w 4) n := by
  funext j
  unfold cf_ld cf_prC
  by_cases h : j < 8
  · simp [h, cf_255 j h]
  · simp [h, h6 j (by omega)]
theorem cf_ld_S {w : cf_Wd} {p c : Nat} {s : Int32} {q : Nat → Int32} (hq : q = cf_prC (w 4) p) : cf_ld (cf_wa w 6 q) c s 8 = cf_prS (w 4) p c s := by
  funext j
  unfold cf_ld cf_prS
  simp only [cf_wa_s, cf_wa_n, pk_us, pk_un, ne_eq, Nat.reduceEqDiff, not_false_eq_true, reduceCtorEq, hq, cf_prC]
  by_cases h : j < 8
  · rw [cf_bit_bt (by omega)]
    cases hb : bt s j <;> simp [h]
  · simp [h]
theorem cf_prC_cd {f : Nat → Int32} {n : Nat} (h : ∀ j, j < 8 → cf_cd (f (8 * n + j))) : ∀ j, j < 8 → cf_cd (cf_prC f n j) := fun j hj => by
  unfold cf_prC
  rw [if_pos hj]
  exact h j hj
theorem cf_prS_cd {f : Nat → Int32} {p c : Nat} {s : Int32} (hp : ∀ j, j < 8 → cf_cd (f (8 * p + j))) (hc : ∀ j, j < 8 → cf_cd (f (8 * c + j))) : ∀ j, j < 8 → cf_cd (cf_prS f p c s j) := fun j hj => by
  unfold cf_prS
  rw [if_pos hj]
  cases bt s j
  · exact hp j hj
  · exact hc j hj
theorem sp_S_judgeC {w : cf_Wd} {c : Nat} (hc : c < 14) (h14 : w 10 14 = nI c) (h6 : ∀ j, 8 ≤ j → w 6 j = 0) (hcd : ∀ j, j < 8 → cf_cd (w 4 (8 * c + j))) : ∃ r w1, F_S_judgeUpcoming [.inr 10] w = some (some (.inl r), w1) ∧ (cf_vd (cf_prC (w 4) c) (w 10 9) r ∧ w1 6 = cf_prC (w 4) c ∧ ∀ k, k ≠ 6 → k ≠ 7 → k ≠ 8 → k ≠ 9 → w1 k = w k) := by
  refine e_S_judgeUpcoming ?_
  have hl := sp_M_load (w := w) hc
  rw [cf_ld_C h6] at hl
  obtain ⟨r, w1, hj, hv, hfr⟩ := sp_M_judge (w := cf_wa w 6 (cf_prC (w 4) c)) (x := w 10 9) (by simp only [cf_wa_s, cf_wa_n, pk_us, pk_un, ne_eq, Nat.reduceEqDiff, not_false_eq_true, reduceCtorEq]; exact cf_prC_cd hcd)
  simp only [cf_wa_s, cf_wa_n, pk_us, pk_un, ne_eq, Nat.reduceEqDiff, not_false_eq_true, reduceCtorEq] at hv
  simp only [r_S_judgeUpcoming_0, r_S_judgeUpcoming_1, r_S_judgeUpcoming_4, r_S_judgeUpcoming_7, r_S_judgeUpcoming_10, r_S_judgeUpcoming_11, r_S_judgeUpcoming_14, r_S_judgeUpcoming_15, r_S_judgeUpcoming_18, r_S_judgeUpcoming_19, r_S_judgeUpcoming_22, r_S_judgeUpcoming_25, r_S_judgeUpcoming_26, r_S_judgeUpcoming_29, r_S_judgeUpcoming_30, r_S_judgeUpcoming_33, r_S_judgeUpcoming_34, r_S_judgeUpcoming_37, r_S_judgeUpcoming_38, r_S_judgeUpcoming_41, r_S_judgeUpcoming_42, r_S_judgeUpcoming_45, r_S_judgeUpcoming_46, r_S_judgeUpcoming_49, r_S_judgeUpcoming_52, r_S_judgeUpcoming_53, r_S_judgeUpcoming_56, r_S_judgeUpcoming_59, r_S_judgeUpcoming_60, r_S_judgeUpcoming_63, r_S_judgeUpcoming_64, r_S_judgeUpcoming_67, r_S_judgeUpcoming_68, c_S_judgeUpcoming_71 (hl), r_S_judgeUpcoming_74, r_S_judgeUpcoming_75, r_S_judgeUpcoming_78, r_S_judgeUpcoming_79, c_S_judgeUpcoming_82 (hj), r_S_judgeUpcoming_85, h14, cf_k2 hc, ↓reduceIte, cf_wa_s, cf_wa_n, pk_us, pk_un, ne_eq, Nat.reduceEqDiff, not_false_eq_true, reduceCtorEq]
  exact ⟨hv, (hfr 6 (by decide) (by decide) (by decide)).trans (cf_wa_s _ _ _), fun k k6 k7 k8 k9 => (hfr k k7 k8 k9).trans (cf_wa_n _ _ k6)⟩
theorem sp_S_judgeS {w : cf_Wd} {c p s : Nat} (hc : c < 14) (hp : p < 14) (hs : s < 256) (h13 : w 10 13 = nI c) (h2 : w 2 c = nI p) (h14 : w 10 14 = nI (1000 + s)) (h6 : ∀ j, 8 ≤ j → w 6 j = 0) (hcd : ∀ j, j < 8 → cf_cd (w 4 (8 * c + j))) (hpd : ∀ j, j < 8 → cf_cd (w 4 (8 * p + j))) : ∃ r w1, F_S_judgeUpcoming [.inr 10] w = some (some (.inl r), w1) ∧ (cf_vd (cf_prS (w 4) p c (nI s)) (w 10 9) r ∧ w1 6 = cf_prS (w 4) p c (nI s) ∧ ∀ k, k ≠ 6 → k ≠ 7 → k ≠ 8 → k ≠ 9 → w1 k = w k) := by
  refine e_S_judgeUpcoming ?_
  have hl := sp_M_load (w := w) hp
  rw [cf_ld_C h6] at hl
  have hl2 := sp_M_loadLines (w := cf_wa w 6 (cf_prC (w 4) p)) (m := nI s) hc
  rw [cf_ld_S rfl, cf_wa_wa] at hl2
  obtain ⟨r, w1, hj, hv, hfr⟩ := sp_M_judge (w := cf_wa w 6 (cf_prS (w 4) p c (nI s))) (x := w 10 9) (by simp only [cf_wa_s, cf_wa_n, pk_us, pk_un, ne_eq, Nat.reduceEqDiff, not_false_eq_true, reduceCtorEq]; exact cf_prS_cd hpd hcd)
  simp only [cf_wa_s, cf_wa_n, pk_us, pk_un, ne_eq, Nat.reduceEqDiff, not_false_eq_true, reduceCtorEq] at hv
  simp only [r_S_judgeUpcoming_0, r_S_judgeUpcoming_1, r_S_judgeUpcoming_4, r_S_judgeUpcoming_7, r_S_judgeUpcoming_10, r_S_judgeUpcoming_11, r_S_judgeUpcoming_14, r_S_judgeUpcoming_15, r_S_judgeUpcoming_18, r_S_judgeUpcoming_19, r_S_judgeUpcoming_22, r_S_judgeUpcoming_25, r_S_judgeUpcoming_26, r_S_judgeUpcoming_29, c_S_judgeUpcoming_30 (hl), r_S_judgeUpcoming_33, r_S_judgeUpcoming_34, r_S_judgeUpcoming_37, r_S_judgeUpcoming_38, r_S_judgeUpcoming_41, r_S_judgeUpcoming_42, r_S_judgeUpcoming_45, r_S_judgeUpcoming_46, r_S_judgeUpcoming_49, r_S_judgeUpcoming_52, c_S_judgeUpcoming_53 (hl2), r_S_judgeUpcoming_56, r_S_judgeUpcoming_59, r_S_judgeUpcoming_60, r_S_judgeUpcoming_63, r_S_judgeUpcoming_64, r_S_judgeUpcoming_67, r_S_judgeUpcoming_68, r_S_judgeUpcoming_71, r_S_judgeUpcoming_74, r_S_judgeUpcoming_75, r_S_judgeUpcoming_78, r_S_judgeUpcoming_79, c_S_judgeUpcoming_82 (hj), r_S_judgeUpcoming_85, h14, h13, h2, cf_k3 hs, cf_k4, ↓reduceIte, cf_wa_s, cf_wa_n, pk_us, pk_un, ne_eq, Nat.reduceEqDiff, not_false_eq_true, reduceCtorEq, cf_in_nI hc (by decide), nI_clamp (show c < 2 ^ 31 by omega), true_and]
  exact ⟨hv, (hfr 6 (by decide) (by decide) (by decide)).trans (cf_wa_s _ _ _), fun k k6 k7 k8 k9 => (hfr k k7 k8 k9).trans (cf_wa_n _ _ k6)⟩
