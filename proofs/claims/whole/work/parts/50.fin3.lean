theorem cf_prC_8 {f : Nat → Int32} {n : Nat} : ∀ j, 8 ≤ j → cf_prC f n j = 0 := fun j hj => by
  unfold cf_prC
  rw [if_neg (by omega)]
theorem cf_prS_8 {f : Nat → Int32} {p c : Nat} {s : Int32} : ∀ j, 8 ≤ j → cf_prS f p c s j = 0 := fun j hj => by
  unfold cf_prS
  rw [if_neg (by omega)]
theorem tw_finish {w : cf_Wd} {n : Nat} (hn : n ≤ 512) (hI : cf_Inv w n) : cf_two F_C_finish F_P_finish [] w (n + 1) := by
  have hI0 := hI
  have hno : w 10 15 = 0 → w 15 9 = 0 → cf_two F_C_finish F_P_finish [] w (n + 1) := by
    intro h1 h2
    have hF : F_S_finishTest [.inr 10] w = some (some (.inl 0), w) := by
      refine cf_is (e_S_finishTest ?_)
      simp only [r_S_finishTest_0, r_S_finishTest_1, r_S_finishTest_4, r_S_finishTest_7, r_S_finishTest_8, r_S_finishTest_9, r_S_finishTest_10, r_S_finishTest_11, r_S_finishTest_14, r_S_finishTest_15, r_S_finishTest_18, r_S_finishTest_19, r_S_finishTest_20, r_S_finishTest_23, r_S_finishTest_24, r_S_finishTest_27, r_S_finishTest_29, r_S_finishTest_30, r_S_finishTest_33, r_S_finishTest_34, r_S_finishTest_35, r_S_finishTest_36, r_S_finishTest_37, r_S_finishTest_38, r_S_finishTest_39, r_S_finishTest_42, r_S_finishTest_43, r_S_finishTest_44, r_S_finishTest_47, r_S_finishTest_48, r_S_finishTest_49, r_S_finishTest_52, r_S_finishTest_53, r_S_finishTest_56, r_S_finishTest_57, r_S_finishTest_60, r_S_finishTest_61, h1, not_true_eq_false, ↓reduceIte, and_self]
    refine ⟨0, w, w, cf_is (e_C_finish ?_), cf_is (e_P_finish ?_), cf_Inv_up hI0⟩
    · simp only [r_C_finish_0, r_C_finish_1, c_C_finish_4 (hF), r_C_finish_7, and_self]
    · simp only [r_P_finish_0, r_P_finish_1, r_P_finish_4, r_P_finish_7, r_P_finish_8, r_P_finish_9, r_P_finish_10, r_P_finish_13, r_P_finish_14, r_P_finish_15, r_P_finish_18, r_P_finish_21, r_P_finish_22, r_P_finish_23, r_P_finish_26, r_P_finish_27, r_P_finish_30, r_P_finish_31, r_P_finish_34, r_P_finish_35, r_P_finish_36, r_P_finish_39, r_P_finish_40, r_P_finish_43, r_P_finish_44, r_P_finish_45, r_P_finish_46, r_P_finish_47, r_P_finish_50, r_P_finish_51, r_P_finish_52, r_P_finish_55, r_P_finish_56, r_P_finish_57, r_P_finish_60, r_P_finish_61, h2, not_true_eq_false, ↓reduceIte, and_self]
  obtain ⟨N, hH, hs, hr⟩ := hI
  rcases hr with hr | ⟨m, g, b, h4, h5⟩
  · exact hno hr.1.2.2.2 hr.1.2.1
  · have s9 := h5.1.2.2.2.2.2.2.2.2
    rcases h4 with ⟨h15, hmn⟩ | ⟨h15, hmn⟩
    · exact hno h15 (s9.trans h15)
    · have hnx : w 10 14 ≠ -1 := by
        rcases h5.2.2.1 with h | h
        · rw [h15] at h
          exact absurd h (by decide)
        · exact h.2
      have hN := hH.1.1
      have e4 := hH.2.1.2.2
      have e2 := hH.2.1.1
      have hcd := hH.2.2.2.2.2.1.1
      obtain ⟨h6z, h22z, h24⟩ := hH.2.2.2.2.2.2
      have hm : m ≤ 255 := by omega
      have hVt := h5.2.2.2.2.1
      have s8 := h5.1.2.2.2.2.2.2.2.1
      -- behind the class's part
      have ref : ∀ r w1 pr, F_S_finishTest [.inr 10] w = some (some (.inl r), w1) → cf_FC w w1 N m g b r pr → (∀ j, 8 ≤ j → pr j = 0) → (∀ f' : Nat → Int32, f' 8 = w 10 9 → f' 21 = w 10 13 → ∃ r' w3, F_P_judge [.inr 15, .inl (w 10 14)] (cf_wa w1 15 f') = some (some (.inl r'), w3) ∧ (cf_vd pr (w 10 9) r' ∧ w3 22 = pr ∧ cf_bdd (w3 24) ∧ ∀ k, k ≠ 22 → k ≠ 23 → k ≠ 24 → k ≠ 25 → w3 k = cf_wa w1 15 f' k)) → cf_two F_C_finish F_P_finish [] w (n + 1) := by
        intro r w1 pr hF hFC hpr hJ
        obtain ⟨f', hW, ⟨h18, h19, h20, h21, h22⟩, hfr⟩ := cf_Inv_workG (w1 := w1) hn hI0 hFC.2.1
        obtain ⟨r', w3, hJ3, hv3, j22, j24, jf⟩ := hJ f' ((hfr 8 (by decide) (by decide) (by decide) (by decide) (by decide)).trans s8) h21
        have er : r' = r := cf_vd_fn hv3 hFC.1
        rw [er] at hJ3
        obtain ⟨w2, hP, hI2⟩ := fin_ref hH hs hmn (by omega) h5 h15 hpr hFC hW h19 hfr hJ3 j22 j24 jf
        refine ⟨r, w1, w2, cf_is (e_C_finish ?_), hP, hI2⟩
        simp only [r_C_finish_0, r_C_finish_1, c_C_finish_4 (hF), r_C_finish_7, and_self]
      rcases cf_Se_nx hH h5 with h | ⟨c, hc, w14, v0⟩ | ⟨s, c, p, hs2, w14, v0, w6, hc, hp, w13, w2c, vp⟩
      · exact absurd h hnx
      · have hc14 : c < 14 := by omega
        obtain ⟨r, wj, hJ, hv, j6, jf⟩ := sp_S_judgeC (w := cf_wa w 10 (upd (w 10) 15 0)) hc14 (by simp only [cf_wa_s, cf_wa_n, pk_us, pk_un, ne_eq, Nat.reduceEqDiff, not_false_eq_true, reduceCtorEq]; exact w14) (by simp only [cf_wa_s, cf_wa_n, pk_us, pk_un, ne_eq, Nat.reduceEqDiff, not_false_eq_true, reduceCtorEq]; exact h6z) (fun j _ => by simp only [cf_wa_s, cf_wa_n, pk_us, pk_un, ne_eq, Nat.reduceEqDiff, not_false_eq_true, reduceCtorEq]; exact hcd _)
        simp only [cf_wa_s, cf_wa_n, pk_us, pk_un, ne_eq, Nat.reduceEqDiff, not_false_eq_true, reduceCtorEq] at hv j6
        have hK := sp_S_keepC (w := cf_wa (cf_wa wj 13 (upd (w 13) m (10 * w 10 14 + r))) 10 (upd (upd (w 10) 15 0) 5 (nI (m + 1)))) hc14 (v := r)
        have j14 : wj 14 = w 14 := (jf 14 (by decide) (by decide) (by decide) (by decide)).trans (cf_wa_n _ _ (by decide))
        have j12 : wj 12 = w 12 := (jf 12 (by decide) (by decide) (by decide) (by decide)).trans (cf_wa_n _ _ (by decide))
        have j3 : wj 3 = w 3 := (jf 3 (by decide) (by decide) (by decide) (by decide)).trans (cf_wa_n _ _ (by decide))
        rw [← w14] at hK
        obtain ⟨w1, hF, hFC⟩ := fin_cls hH h5 (by omega) hnx h15 hv hJ j6 jf hK (fun k k1 k2 k3 => by rw [cf_wa_n _ _ k1, cf_wa_n _ _ k3]) (by
          unfold cf_Vt
          simp only [cf_wa_s, cf_wa_n, pk_us, pk_un, ne_eq, Nat.reduceEqDiff, not_false_eq_true, reduceCtorEq, j14, j12]
          refine ⟨fun i hi => ?_, fun t ht => ?_⟩
          · by_cases e : i = c
            · rw [e, pk_us, w14, if_pos rfl]
            · rw [pk_un e, w14, if_neg (fun h => e ((nI_eq (by omega) (by omega)).mp h).symm)]
              exact hVt.1 i hi
          · rw [w14, cf_k1, if_neg (fun h => by have := (nI_eq (by omega) (by omega)).mp h; omega), ← cf_k1]
            exact hVt.2 t ht) (fun k k1 k2 => by
          rw [cf_wa_s]
          by_cases r2 : r = 2
          · rw [if_pos r2, pk_un k1, cf_wa_s]
          · rw [if_neg r2]
            by_cases r1 : r = 1
            · rw [if_pos r1, pk_un k2, cf_wa_s]
            · rw [if_neg r1, cf_wa_s]) (fun c' hc' e' => by
          have ecc : c' = c := (nI_eq (by omega) (by omega)).mp (e'.symm.trans w14)
          subst ecc
          rw [cf_wa_s]
          by_cases r2 : r = 2
          · rw [if_pos r2, if_pos r2, if_pos r2]
            simp only [cf_wa_s, cf_wa_n, pk_us, pk_un, ne_eq, Nat.reduceEqDiff, not_false_eq_true, reduceCtorEq, w14, and_self]
          · rw [if_neg r2, if_neg r2, if_neg r2]
            by_cases r1 : r = 1
            · rw [if_pos r1, if_pos r1]
              simp only [cf_wa_s, cf_wa_n, pk_us, pk_un, ne_eq, Nat.reduceEqDiff, not_false_eq_true, reduceCtorEq, j3, and_self]
            · rw [if_neg r1, if_neg r1]
              simp only [cf_wa_s, cf_wa_n, pk_us, pk_un, ne_eq, Nat.reduceEqDiff, not_false_eq_true, reduceCtorEq, and_self])
        refine ref r w1 (cf_prC (w 4) c) hF hFC cf_prC_8 (fun f' f8 f21 => ?_)
        have g := hFC.2.1
        have := sp_P_judgeC (w := cf_wa w1 15 f') hc14 (by simp only [cf_wa_s, cf_wa_n, pk_us, pk_un, ne_eq, Nat.reduceEqDiff, not_false_eq_true, reduceCtorEq]; rw [g 22 (by decide)]; exact h22z) (fun j _ => by simp only [cf_wa_s, cf_wa_n, pk_us, pk_un, ne_eq, Nat.reduceEqDiff, not_false_eq_true, reduceCtorEq]; rw [g 18 (by decide), ← e4]; exact hcd _) (by simp only [cf_wa_s, cf_wa_n, pk_us, pk_un, ne_eq, Nat.reduceEqDiff, not_false_eq_true, reduceCtorEq]; rw [g 24 (by decide)]; exact h24)
        simp only [cf_wa_s, cf_wa_n, pk_us, pk_un, ne_eq, Nat.reduceEqDiff, not_false_eq_true, reduceCtorEq, f8] at this
        rw [g 18 (by decide), ← e4, ← w14] at this
        exact this
      · have hc14 : c < 14 := by omega
        have hp14 : p < 14 := by omega
        obtain ⟨r, wj, hJ, hv, j6, jf⟩ := sp_S_judgeS (w := cf_wa w 10 (upd (w 10) 15 0)) hc14 hp14 hs2 (by simp only [cf_wa_s, cf_wa_n, pk_us, pk_un, ne_eq, Nat.reduceEqDiff, not_false_eq_true, reduceCtorEq]; exact w13) (by simp only [cf_wa_s, cf_wa_n, pk_us, pk_un, ne_eq, Nat.reduceEqDiff, not_false_eq_true, reduceCtorEq]; exact w2c) (by simp only [cf_wa_s, cf_wa_n, pk_us, pk_un, ne_eq, Nat.reduceEqDiff, not_false_eq_true, reduceCtorEq]; exact w14) (by simp only [cf_wa_s, cf_wa_n, pk_us, pk_un, ne_eq, Nat.reduceEqDiff, not_false_eq_true, reduceCtorEq]; exact h6z) (fun j _ => by simp only [cf_wa_s, cf_wa_n, pk_us, pk_un, ne_eq, Nat.reduceEqDiff, not_false_eq_true, reduceCtorEq]; exact hcd _) (fun j _ => by simp only [cf_wa_s, cf_wa_n, pk_us, pk_un, ne_eq, Nat.reduceEqDiff, not_false_eq_true, reduceCtorEq]; exact hcd _)
        simp only [cf_wa_s, cf_wa_n, pk_us, pk_un, ne_eq, Nat.reduceEqDiff, not_false_eq_true, reduceCtorEq] at hv j6
        have hK := sp_S_keepS (w := cf_wa (cf_wa wj 13 (upd (w 13) m (10 * w 10 14 + r))) 10 (upd (upd (w 10) 15 0) 5 (nI (m + 1)))) hs2 (v := r)
        have j14 : wj 14 = w 14 := (jf 14 (by decide) (by decide) (by decide) (by decide)).trans (cf_wa_n _ _ (by decide))
        have j12 : wj 12 = w 12 := (jf 12 (by decide) (by decide) (by decide) (by decide)).trans (cf_wa_n _ _ (by decide))
        rw [← w14] at hK
        obtain ⟨w1, hF, hFC⟩ := fin_cls hH h5 (by omega) hnx h15 hv hJ j6 jf hK (fun k k1 k2 k3 => by rw [cf_wa_n _ _ k2]) (by
          unfold cf_Vt
          simp only [cf_wa_s, cf_wa_n, pk_us, pk_un, ne_eq, Nat.reduceEqDiff, not_false_eq_true, reduceCtorEq, j14, j12]
          refine ⟨fun i hi => ?_, fun t ht => ?_⟩
          · rw [w14, if_neg (fun h => by have := (nI_eq (by omega) (by omega)).mp h; omega)]
            exact hVt.1 i hi
          · rw [w14, cf_k1]
            by_cases e : t = s
            · rw [e, pk_us, if_pos rfl]
            · rw [pk_un e, if_neg (fun h => by have := (nI_eq (by omega) (by omega)).mp h; omega), ← cf_k1]
              exact hVt.2 t ht) (fun k k1 k2 => by simp only [cf_wa_s, cf_wa_n, pk_us, pk_un, ne_eq, Nat.reduceEqDiff, not_false_eq_true, reduceCtorEq]) (fun c' hc' e' => by
          exfalso
          have := (nI_eq (by omega) (by omega)).mp (e'.symm.trans w14)
          omega)
        refine ref r w1 (cf_prS (w 4) p c (nI s)) hF hFC cf_prS_8 (fun f' f8 f21 => ?_)
        have g := hFC.2.1
        have := sp_P_judgeS (w := cf_wa w1 15 f') hc14 hp14 hs2 (by simp only [cf_wa_s, cf_wa_n, pk_us, pk_un, ne_eq, Nat.reduceEqDiff, not_false_eq_true, reduceCtorEq]; rw [f21]; exact w13) (by simp only [cf_wa_s, cf_wa_n, pk_us, pk_un, ne_eq, Nat.reduceEqDiff, not_false_eq_true, reduceCtorEq]; rw [g 16 (by decide), ← e2]; exact w2c) (by simp only [cf_wa_s, cf_wa_n, pk_us, pk_un, ne_eq, Nat.reduceEqDiff, not_false_eq_true, reduceCtorEq]; rw [g 22 (by decide)]; exact h22z) (fun j _ => by simp only [cf_wa_s, cf_wa_n, pk_us, pk_un, ne_eq, Nat.reduceEqDiff, not_false_eq_true, reduceCtorEq]; rw [g 18 (by decide), ← e4]; exact hcd _) (fun j _ => by simp only [cf_wa_s, cf_wa_n, pk_us, pk_un, ne_eq, Nat.reduceEqDiff, not_false_eq_true, reduceCtorEq]; rw [g 18 (by decide), ← e4]; exact hcd _) (by simp only [cf_wa_s, cf_wa_n, pk_us, pk_un, ne_eq, Nat.reduceEqDiff, not_false_eq_true, reduceCtorEq]; rw [g 24 (by decide)]; exact h24)
        simp only [cf_wa_s, cf_wa_n, pk_us, pk_un, ne_eq, Nat.reduceEqDiff, not_false_eq_true, reduceCtorEq, f8] at this
        rw [g 18 (by decide), ← e4, ← w14] at this
        exact this
