/-! finish -/
theorem cf_kn_u {ts vs : Nat → Int32} {t x y : Int32} {m : Nat} : ∀ k, k ≤ m → cf_kn (upd ts m x) (upd vs m y) t k = cf_kn ts vs t k := by
  intro k
  induction k with
  | zero => intro _; rfl
  | succ k ih =>
    intro hk
    simp only [cf_kn]
    rw [pk_un (show k ≠ m by omega), pk_un (show k ≠ m by omega), ih (by omega)]
theorem cf_kn_n {ts vs : Nat → Int32} {x y : Int32} {m : Nat} : (fun t => cf_kn (upd ts m x) (upd vs m y) t (m + 1)) = fun t => if x = t then y else cf_kn ts vs t m := by
  funext t
  simp only [cf_kn]
  rw [pk_us, pk_us, cf_kn_u m (Nat.le_refl m)]
/-- the class's part: r the verdict, pr the program -/
def cf_FC (w w1 : cf_Wd) (N m g b : Nat) (r : Int32) (pr : Nat → Int32) : Prop :=
  cf_vd pr (w 10 9) r ∧ (∀ k, 15 ≤ k → w1 k = w k) ∧ (w1 1 = w 1 ∧ w1 2 = w 2 ∧ w1 3 = w 3 ∧ w1 4 = w 4) ∧ w1 6 = pr ∧ w1 13 = upd (w 13) m (10 * w 10 14 + r) ∧ cf_Vt w1 (fun t => if w 10 14 = t then r else cf_V w m t) ∧ cf_tup w1 = cf_wk (w 3) (w 2) (w 4) N g b (fun t => if w 10 14 = t then r else cf_V w m t) ∧ cf_InV w1 N g b (fun t => if w 10 14 = t then r else cf_V w m t) ∧ (w1 10 5 = nI (m + 1) ∧ w1 10 15 = 0 ∧ w1 10 7 = w 10 7 ∧ w1 10 8 = w 10 8 ∧ w1 10 9 = w 10 9 ∧ w1 10 16 = w 10 16)
theorem fin_cls {w wj wK : cf_Wd} {N m g b : Nat} {r : Int32} {pr : Nat → Int32} (hH : cf_Hi w N) (h5 : cf_Se w N m g b) (hm : m < 270) (hnx : w 10 14 ≠ -1) (h15 : w 10 15 = 1) (hv : cf_vd pr (w 10 9) r)
    (hJ : F_S_judgeUpcoming [.inr 10] (cf_wa w 10 (upd (w 10) 15 0)) = some (some (.inl r), wj)) (j6 : wj 6 = pr) (jf : ∀ k, k ≠ 6 → k ≠ 7 → k ≠ 8 → k ≠ 9 → wj k = cf_wa w 10 (upd (w 10) 15 0) k)
    (hK : F_S_keepVerdict [.inr 10, .inl (w 10 14), .inl r] (cf_wa (cf_wa wj 13 (upd (w 13) m (10 * w 10 14 + r))) 10 (upd (upd (w 10) 15 0) 5 (nI (m + 1)))) = some (none, wK))
    (kf : ∀ k, k ≠ 10 → k ≠ 12 → k ≠ 14 → wK k = cf_wa (cf_wa wj 13 (upd (w 13) m (10 * w 10 14 + r))) 10 (upd (upd (w 10) 15 0) 5 (nI (m + 1))) k) (kV : cf_Vt wK (fun t => if w 10 14 = t then r else cf_V w m t)) (k10 : ∀ k, k ≠ 10 → k ≠ 11 → wK 10 k = upd (upd (w 10) 15 0) 5 (nI (m + 1)) k)
    (eK : ∀ c, c < 14 → w 10 14 = nI c → wK 10 10 = (if r = 2 then nI c else w 10 10) ∧ wK 10 11 = (if r = 2 then w 10 11 else if r = 1 then w 10 11 ||| w 3 c else w 10 11)) : ∃ w1, F_S_finishTest [.inr 10] w = some (some (.inl r), w1) ∧ cf_FC w w1 N m g b r pr := by
  have c5 := h5.1.2.2.1
  have kx : ∀ k, k ≠ 6 → k ≠ 7 → k ≠ 8 → k ≠ 9 → k ≠ 10 → k ≠ 12 → k ≠ 13 → k ≠ 14 → wK k = w k := fun k k6 k7 k8 k9 k10 k12 k13 k14 => by
    rw [kf k k10 k12 k14, cf_wa_n _ _ k10, cf_wa_n _ _ k13, jf k k6 k7 k8 k9, cf_wa_n _ _ k10]
  obtain ⟨w1, hP, p1, p2⟩ := fin_core (w := w) (wK := wK) (r := r) (V' := fun t => if w 10 14 = t then r else cf_V w m t) hH rfl h5 hnx (cf_vd_123 hv) (fun t => rfl) (kx 1 (by decide) (by decide) (by decide) (by decide) (by decide) (by decide) (by decide) (by decide)) (kx 2 (by decide) (by decide) (by decide) (by decide) (by decide) (by decide) (by decide) (by decide)) (kx 3 (by decide) (by decide) (by decide) (by decide) (by decide) (by decide) (by decide) (by decide)) (kx 4 (by decide) (by decide) (by decide) (by decide) (by decide) (by decide) (by decide) (by decide)) (kx 11 (by decide) (by decide) (by decide) (by decide) (by decide) (by decide) (by decide) (by decide)) kV (fun k a1 a2 a3 a4 => by rw [k10 k a2 a3, pk_un a1, pk_un a4]) eK
  have x3 := kx 3 (by decide) (by decide) (by decide) (by decide) (by decide) (by decide) (by decide) (by decide)
  have x2 := kx 2 (by decide) (by decide) (by decide) (by decide) (by decide) (by decide) (by decide) (by decide)
  have x4 := kx 4 (by decide) (by decide) (by decide) (by decide) (by decide) (by decide) (by decide) (by decide)
  have x1 := kx 1 (by decide) (by decide) (by decide) (by decide) (by decide) (by decide) (by decide) (by decide)
  have j10 : wj 10 = upd (w 10) 15 0 := (jf 10 (by decide) (by decide) (by decide) (by decide)).trans (cf_wa_s _ _ _)
  have j13 : wj 13 = w 13 := (jf 13 (by decide) (by decide) (by decide) (by decide)).trans (cf_wa_n _ _ (by decide))
  obtain ⟨pt, pf, pf10⟩ := p1
  refine ⟨w1, cf_is (e_S_finishTest ?_), hv, fun k hk => ?_, ?_, ?_, ?_, ?_, ?_, p2, ?_⟩
  · simp only [r_S_finishTest_0, r_S_finishTest_1, r_S_finishTest_4, r_S_finishTest_7, r_S_finishTest_8, r_S_finishTest_9, r_S_finishTest_10, r_S_finishTest_11, r_S_finishTest_14, c_S_finishTest_15 (hJ), r_S_finishTest_18, r_S_finishTest_19, r_S_finishTest_20, r_S_finishTest_23, r_S_finishTest_24, r_S_finishTest_27, r_S_finishTest_29, r_S_finishTest_30, r_S_finishTest_33, r_S_finishTest_34, r_S_finishTest_35, r_S_finishTest_36, r_S_finishTest_37, r_S_finishTest_38, r_S_finishTest_39, r_S_finishTest_42, r_S_finishTest_43, r_S_finishTest_44, r_S_finishTest_47, r_S_finishTest_48, r_S_finishTest_49, r_S_finishTest_52, c_S_finishTest_53 (hK), r_S_finishTest_56, c_S_finishTest_57 (hP), r_S_finishTest_60, r_S_finishTest_61, h15, cf_q_0_1, cf_q_0_2, cf_q_0_3, cf_q_0_4, cf_q_0_5, cf_q_0_6, cf_q_0_7, cf_q_0_8, cf_q_0_9, cf_q_1_0, cf_q_1_2, cf_q_1_3, cf_q_1_4, cf_q_1_5, cf_q_1_6, cf_q_1_7, cf_q_1_8, cf_q_1_9, cf_q_2_0, cf_q_2_1, cf_q_2_3, cf_q_2_4, cf_q_2_5, cf_q_2_6, cf_q_2_7, cf_q_2_8, cf_q_2_9, cf_q_3_0, cf_q_3_1, cf_q_3_2, cf_q_3_4, cf_q_3_5, cf_q_3_6, cf_q_3_7, cf_q_3_8, cf_q_3_9, cf_q_4_0, cf_q_4_1, cf_q_4_2, cf_q_4_3, cf_q_4_5, cf_q_4_6, cf_q_4_7, cf_q_4_8, cf_q_4_9, cf_q_5_0, cf_q_5_1, cf_q_5_2, cf_q_5_3, cf_q_5_4, cf_q_5_6, cf_q_5_7, cf_q_5_8, cf_q_5_9, cf_q_6_0, cf_q_6_1, cf_q_6_2, cf_q_6_3, cf_q_6_4, cf_q_6_5, cf_q_6_7, cf_q_6_8, cf_q_6_9, cf_q_7_0, cf_q_7_1, cf_q_7_2, cf_q_7_3, cf_q_7_4, cf_q_7_5, cf_q_7_6, cf_q_7_8, cf_q_7_9, cf_q_8_0, cf_q_8_1, cf_q_8_2, cf_q_8_3, cf_q_8_4, cf_q_8_5, cf_q_8_6, cf_q_8_7, cf_q_8_9, cf_q_9_0, cf_q_9_1, cf_q_9_2, cf_q_9_3, cf_q_9_4, cf_q_9_5, cf_q_9_6, cf_q_9_7, cf_q_9_8, not_false_eq_true, ↓reduceIte, cf_z0, true_and, cf_wa_s, cf_wa_n, pk_us, pk_un, ne_eq, Nat.reduceEqDiff, not_false_eq_true, reduceCtorEq, j10, j13, c5, cf_in_nI hm (by decide), nI_clamp (show m < 2 ^ 31 by omega), cf_wa_wa, nI_1, and_self]
  · rw [pf k (by omega) (by omega)]
    exact kx k (by omega) (by omega) (by omega) (by omega) (by omega) (by omega) (by omega) (by omega)
  · rw [pf 1 (by decide) (by decide), pf 2 (by decide) (by decide), pf 3 (by decide) (by decide), pf 4 (by decide) (by decide)]
    exact ⟨x1, x2, x3, x4⟩
  · rw [pf 6 (by decide) (by decide), kf 6 (by decide) (by decide) (by decide)]
    simp only [cf_wa_s, cf_wa_n, pk_us, pk_un, ne_eq, Nat.reduceEqDiff, not_false_eq_true, reduceCtorEq]
    exact j6
  · rw [pf 13 (by decide) (by decide), kf 13 (by decide) (by decide) (by decide)]
    simp only [cf_wa_s, cf_wa_n, pk_us, pk_un, ne_eq, Nat.reduceEqDiff, not_false_eq_true, reduceCtorEq]
  · unfold cf_Vt at kV ⊢
    rw [pf 14 (by decide) (by decide), pf 12 (by decide) (by decide)]
    exact kV
  · rw [pt, x2, x3, x4]
  · rw [pf10 5 (by decide) (by decide) (by decide) (by decide), pf10 15 (by decide) (by decide) (by decide) (by decide), pf10 7 (by decide) (by decide) (by decide) (by decide), pf10 8 (by decide) (by decide) (by decide) (by decide), pf10 9 (by decide) (by decide) (by decide) (by decide), pf10 16 (by decide) (by decide) (by decide) (by decide), k10 5 (by decide) (by decide), k10 15 (by decide) (by decide), k10 7 (by decide) (by decide), k10 8 (by decide) (by decide), k10 9 (by decide) (by decide), k10 16 (by decide) (by decide)]
    simp only [cf_wa_s, cf_wa_n, pk_us, pk_un, ne_eq, Nat.reduceEqDiff, not_false_eq_true, reduceCtorEq, and_self]
/-- the reference's part -/
theorem fin_ref {w w1 w3 : cf_Wd} {n N m g b : Nat} {r : Int32} {pr f' : Nat → Int32} (hH : cf_Hi w N) (hs : w 10 16 = w 15 10) (hmn : 2 * m + 1 ≤ n) (hm : m < 600) (h5 : cf_Se w N m g b) (h15 : w 10 15 = 1) (hpr : ∀ j, 8 ≤ j → pr j = 0) (hC : cf_FC w w1 N m g b r pr)
    (hW : F_P_work [.inr 15] w1 = some (none, cf_wa w1 15 f')) (f19 : f' 19 = w 10 14) (hfr : ∀ k, k ≠ 18 → k ≠ 19 → k ≠ 20 → k ≠ 21 → k ≠ 22 → f' k = w 15 k)
    (hJ : F_P_judge [.inr 15, .inl (w 10 14)] (cf_wa w1 15 f') = some (some (.inl r), w3)) (j22 : w3 22 = pr) (j24 : cf_bdd (w3 24)) (jf : ∀ k, k ≠ 22 → k ≠ 23 → k ≠ 24 → k ≠ 25 → w3 k = cf_wa w1 15 f' k) : ∃ w2, F_P_finish [.inr 15] w1 = some (some (.inl r), w2) ∧ cf_Inv w2 (n + 1) := by
  obtain ⟨hv, hge, ⟨q1, q2, q3, q4⟩, q6, q13, qV, qt, qI, q5, q15, q7, q8, q9, q16⟩ := hC
  obtain ⟨⟨s5, s11, c5, s6, c7, s7, c8, s8, s9⟩, hgb, hrun, hj, hVt, htu, hIn⟩ := h5
  have g9 : w1 15 9 = 1 := by rw [hge 15 (by decide), s9, h15]
  have j15 : w3 15 = f' := (jf 15 (by decide) (by decide) (by decide) (by decide)).trans (cf_wa_s _ _ _)
  have jx : ∀ k, k ≠ 15 → k ≠ 22 → k ≠ 23 → k ≠ 24 → k ≠ 25 → w3 k = w1 k := fun k k15 k22 k23 k24 k25 => (jf k k22 k23 k24 k25).trans (cf_wa_n _ _ k15)
  have j20 : w3 20 = w 20 := (jx 20 (by decide) (by decide) (by decide) (by decide) (by decide)).trans (hge 20 (by decide))
  have j21 : w3 21 = w 21 := (jx 21 (by decide) (by decide) (by decide) (by decide) (by decide)).trans (hge 21 (by decide))
  have f11 : f' 11 = nI m := (hfr 11 (by decide) (by decide) (by decide) (by decide) (by decide)).trans s11
  refine ⟨cf_wa (cf_wa (cf_wa w3 20 (upd (w 20) m (w 10 14))) 21 (upd (w 21) m r)) 15 (upd (upd f' 11 (nI (m + 1))) 9 0), cf_is (e_P_finish ?_), ?_⟩
  · simp only [r_P_finish_0, r_P_finish_1, r_P_finish_4, r_P_finish_7, r_P_finish_8, r_P_finish_9, c_P_finish_10 (hW), r_P_finish_13, r_P_finish_14, r_P_finish_15, c_P_finish_18 (hJ), r_P_finish_21, r_P_finish_22, r_P_finish_23, r_P_finish_26, r_P_finish_27, r_P_finish_30, r_P_finish_31, r_P_finish_34, r_P_finish_35, r_P_finish_36, r_P_finish_39, r_P_finish_40, r_P_finish_43, r_P_finish_44, r_P_finish_45, r_P_finish_46, r_P_finish_47, r_P_finish_50, r_P_finish_51, r_P_finish_52, r_P_finish_55, r_P_finish_56, r_P_finish_57, r_P_finish_60, r_P_finish_61, g9, cf_q_0_1, cf_q_0_2, cf_q_0_3, cf_q_0_4, cf_q_0_5, cf_q_0_6, cf_q_0_7, cf_q_0_8, cf_q_0_9, cf_q_1_0, cf_q_1_2, cf_q_1_3, cf_q_1_4, cf_q_1_5, cf_q_1_6, cf_q_1_7, cf_q_1_8, cf_q_1_9, cf_q_2_0, cf_q_2_1, cf_q_2_3, cf_q_2_4, cf_q_2_5, cf_q_2_6, cf_q_2_7, cf_q_2_8, cf_q_2_9, cf_q_3_0, cf_q_3_1, cf_q_3_2, cf_q_3_4, cf_q_3_5, cf_q_3_6, cf_q_3_7, cf_q_3_8, cf_q_3_9, cf_q_4_0, cf_q_4_1, cf_q_4_2, cf_q_4_3, cf_q_4_5, cf_q_4_6, cf_q_4_7, cf_q_4_8, cf_q_4_9, cf_q_5_0, cf_q_5_1, cf_q_5_2, cf_q_5_3, cf_q_5_4, cf_q_5_6, cf_q_5_7, cf_q_5_8, cf_q_5_9, cf_q_6_0, cf_q_6_1, cf_q_6_2, cf_q_6_3, cf_q_6_4, cf_q_6_5, cf_q_6_7, cf_q_6_8, cf_q_6_9, cf_q_7_0, cf_q_7_1, cf_q_7_2, cf_q_7_3, cf_q_7_4, cf_q_7_5, cf_q_7_6, cf_q_7_8, cf_q_7_9, cf_q_8_0, cf_q_8_1, cf_q_8_2, cf_q_8_3, cf_q_8_4, cf_q_8_5, cf_q_8_6, cf_q_8_7, cf_q_8_9, cf_q_9_0, cf_q_9_1, cf_q_9_2, cf_q_9_3, cf_q_9_4, cf_q_9_5, cf_q_9_6, cf_q_9_7, cf_q_9_8, not_false_eq_true, ↓reduceIte, cf_wa_s, cf_wa_n, pk_us, pk_un, ne_eq, Nat.reduceEqDiff, not_false_eq_true, reduceCtorEq, f19, j15, f11, j20, j21, cf_in_nI hm (by decide), nI_clamp (show m < 2 ^ 31 by omega), true_and, nI_1, cf_z0, cf_wa_wa, and_self]
  · have o1 : w3 1 = w 1 := (jx 1 (by decide) (by decide) (by decide) (by decide) (by decide)).trans q1
    have o2 : w3 2 = w 2 := (jx 2 (by decide) (by decide) (by decide) (by decide) (by decide)).trans q2
    have o3 : w3 3 = w 3 := (jx 3 (by decide) (by decide) (by decide) (by decide) (by decide)).trans q3
    have o4 : w3 4 = w 4 := (jx 4 (by decide) (by decide) (by decide) (by decide) (by decide)).trans q4
    have o6 : w3 6 = pr := (jx 6 (by decide) (by decide) (by decide) (by decide) (by decide)).trans q6
    have o10 : w3 10 = w1 10 := jx 10 (by decide) (by decide) (by decide) (by decide) (by decide)
    have o11 : w3 11 = w1 11 := jx 11 (by decide) (by decide) (by decide) (by decide) (by decide)
    have o12 : w3 12 = w1 12 := jx 12 (by decide) (by decide) (by decide) (by decide) (by decide)
    have o13 : w3 13 = w1 13 := jx 13 (by decide) (by decide) (by decide) (by decide) (by decide)
    have o14 : w3 14 = w1 14 := jx 14 (by decide) (by decide) (by decide) (by decide) (by decide)
    have o16 : w3 16 = w 16 := (jx 16 (by decide) (by decide) (by decide) (by decide) (by decide)).trans (hge 16 (by decide))
    have o17 : w3 17 = w 17 := (jx 17 (by decide) (by decide) (by decide) (by decide) (by decide)).trans (hge 17 (by decide))
    have o18 : w3 18 = w 18 := (jx 18 (by decide) (by decide) (by decide) (by decide) (by decide)).trans (hge 18 (by decide))
    have o19 : w3 19 = w 19 := (jx 19 (by decide) (by decide) (by decide) (by decide) (by decide)).trans (hge 19 (by decide))
    have k0 := hfr 0 (by decide) (by decide) (by decide) (by decide) (by decide)
    have k5 := hfr 5 (by decide) (by decide) (by decide) (by decide) (by decide)
    have k6 := hfr 6 (by decide) (by decide) (by decide) (by decide) (by decide)
    have k7 := hfr 7 (by decide) (by decide) (by decide) (by decide) (by decide)
    have k8 := hfr 8 (by decide) (by decide) (by decide) (by decide) (by decide)
    have k10 := hfr 10 (by decide) (by decide) (by decide) (by decide) (by decide)
    refine ⟨N, ?_, ?_, Or.inr ⟨m + 1, g, b, Or.inl ⟨?_, by omega⟩, ?_⟩⟩
    · obtain ⟨a1, a2, a3, a4, a5, a6, a7, a8, a9⟩ := hH
      unfold cf_Hi
      simp only [cf_wa_s, cf_wa_n, pk_us, pk_un, ne_eq, Nat.reduceEqDiff, not_false_eq_true, reduceCtorEq, o1, o2, o3, o4, o6, o16, o17, o18, o19, k0, j22]
      exact ⟨a1, a2, a3, a4, a5, a6, hpr, hpr, j24⟩
    · simp only [cf_wa_s, cf_wa_n, pk_us, pk_un, ne_eq, Nat.reduceEqDiff, not_false_eq_true, reduceCtorEq, o10, q16, k10]
      exact hs
    · simp only [cf_wa_s, cf_wa_n, pk_us, pk_un, ne_eq, Nat.reduceEqDiff, not_false_eq_true, reduceCtorEq, o10, q15]
    · have eV : cf_V (cf_wa (cf_wa (cf_wa w3 20 (upd (w 20) m (w 10 14))) 21 (upd (w 21) m r)) 15 (upd (upd f' 11 (nI (m + 1))) 9 0)) (m + 1) = fun t => if w 10 14 = t then r else cf_V w m t := by
        unfold cf_V
        simp only [cf_wa_s, cf_wa_n, pk_us, pk_un, ne_eq, Nat.reduceEqDiff, not_false_eq_true, reduceCtorEq]
        exact cf_kn_n
      unfold cf_Se
      rw [eV]
      refine ⟨?_, hgb, Or.inl ?_, fun k hk => ?_, ?_, ?_, ?_⟩
      · simp only [cf_wa_s, cf_wa_n, pk_us, pk_un, ne_eq, Nat.reduceEqDiff, not_false_eq_true, reduceCtorEq, o10, q5, q15, q7, q8, q9, k5, k6, k7, k8]
        exact ⟨s5, trivial, trivial, s6, c7, s7, c8, s8, trivial⟩
      · simp only [cf_wa_s, cf_wa_n, pk_us, pk_un, ne_eq, Nat.reduceEqDiff, not_false_eq_true, reduceCtorEq, o10, q15]
      · simp only [cf_wa_s, cf_wa_n, pk_us, pk_un, ne_eq, Nat.reduceEqDiff, not_false_eq_true, reduceCtorEq, o13, q13]
        by_cases e : k = m
        · subst e
          simp only [cf_wa_s, cf_wa_n, pk_us, pk_un, ne_eq, Nat.reduceEqDiff, not_false_eq_true, reduceCtorEq]
        · rw [pk_un e, pk_un e, pk_un e]
          exact hj k (by omega)
      · unfold cf_Vt at qV ⊢
        simp only [cf_wa_s, cf_wa_n, pk_us, pk_un, ne_eq, Nat.reduceEqDiff, not_false_eq_true, reduceCtorEq, o14, o12]
        exact qV
      · unfold cf_tup at qt ⊢
        simp only [cf_wa_s, cf_wa_n, pk_us, pk_un, ne_eq, Nat.reduceEqDiff, not_false_eq_true, reduceCtorEq, o10, o11, o2, o3, o4]
        exact qt
      · unfold cf_InV at qI
        unfold cf_In
        rw [eV]
        simp only [cf_wa_s, cf_wa_n, pk_us, pk_un, ne_eq, Nat.reduceEqDiff, not_false_eq_true, reduceCtorEq, o10, o3]
        rw [q3] at qI
        exact qI
