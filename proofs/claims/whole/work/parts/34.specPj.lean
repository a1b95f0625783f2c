/-! the reference: judging a test -/
theorem cf_pl_C {w : cf_Wd} {n : Nat} (h22 : ∀ j, 8 ≤ j → w 22 j = 0) : cf_pl w n 8 = cf_prC (w 18) n := by
  funext j
  unfold cf_pl cf_prC
  by_cases h : j < 8
  · simp [h]
  · simp [h, h22 j (by omega)]
theorem sp_P_judgeC {w : cf_Wd} {c : Nat} (hc : c < 14) (h22 : ∀ j, 8 ≤ j → w 22 j = 0) (hcd : ∀ j, j < 8 → cf_cd (w 18 (8 * c + j))) (hb : cf_bdd (w 24)) : ∃ r w1, F_P_judge [.inr 15, .inl (nI c)] w = some (some (.inl r), w1) ∧ (cf_vd (cf_prC (w 18) c) (w 15 8) r ∧ w1 22 = cf_prC (w 18) c ∧ cf_bdd (w1 24) ∧ ∀ k, k ≠ 22 → k ≠ 23 → k ≠ 24 → k ≠ 25 → w1 k = w k) := by
  refine e_P_judge ?_
  have hl := sp_P_load (w := w) hc
  rw [cf_pl_C h22] at hl
  obtain ⟨r, w1, hj, hv, hb1, hfr⟩ := sp_P_run (w := cf_wa w 22 (cf_prC (w 18) c)) (x := w 15 8) (by simp only [cf_wa_s, cf_wa_n, pk_us, pk_un, ne_eq, Nat.reduceEqDiff, not_false_eq_true, reduceCtorEq]; exact cf_prC_cd hcd) (by simp only [cf_wa_s, cf_wa_n, pk_us, pk_un, ne_eq, Nat.reduceEqDiff, not_false_eq_true, reduceCtorEq]; exact hb)
  simp only [cf_wa_s, cf_wa_n, pk_us, pk_un, ne_eq, Nat.reduceEqDiff, not_false_eq_true, reduceCtorEq] at hv
  simp only [r_P_judge_0, r_P_judge_1, r_P_judge_4, cf_k5 hc, ↓reduceIte, r_P_judge_7, r_P_judge_8, c_P_judge_9 hl, r_P_judge_12, r_P_judge_13, r_P_judge_14, cf_wa_s, cf_wa_n, pk_us, pk_un, ne_eq, Nat.reduceEqDiff, not_false_eq_true, reduceCtorEq, c_P_judge_17 hj, r_P_judge_20]
  exact ⟨hv, (hfr 22 (by decide) (by decide) (by decide)).trans (cf_wa_s _ _ _), hb1, fun k k6 k7 k8 k9 => (hfr k k7 k8 k9).trans (cf_wa_n _ _ k6)⟩
def cf_pj (f : Nat → Int32) (p c : Nat) (s : Int32) (k : Nat) : Nat → Int32 := fun j => if j < k then cf_prS f p c s j else cf_prC f p j
theorem cf_pj_u {f : Nat → Int32} {p c : Nat} {s : Int32} {k : Nat} : upd (cf_pj f p c s k) k (cf_prS f p c s k) = cf_pj f p c s (k + 1) := by
  funext j
  unfold upd cf_pj
  by_cases h : j = k
  · subst h
    simp
  · have e : (j < k + 1) ↔ j < k := by omega
    simp [h, e]
theorem cf_pj_8 {f : Nat → Int32} {p c : Nat} {s : Int32} : cf_pj f p c s 8 = cf_prS f p c s := by
  funext j
  unfold cf_pj
  by_cases h : j < 8
  · rw [if_pos h]
  · rw [if_neg h]
    simp [cf_prS, cf_prC, h]
theorem lp_P_judge {w : cf_Wd} {c p s : Nat} (hc : c < 14) (hp : p < 14) (hs : s < 256) (h21 : w 15 21 = nI c) {Q : cf_Rs → Prop} (hQ : cf_wp T_P_judge (90, [some (.inr 15), some (.inl (nI (1000 + s))), some (.inl (nI 8))], [], cf_wa w 22 (cf_prS (w 18) p c (nI s))) Q) : ∀ d k, k + d = 8 → cf_wp T_P_judge (36, [some (.inr 15), some (.inl (nI (1000 + s))), some (.inl (nI k))], [], cf_wa w 22 (cf_pj (w 18) p c (nI s) k)) Q := by
  intro d
  induction d with
  | zero =>
    intro k hk
    have e : k = 8 := by omega
    subst e
    simp only [r_P_judge_36, r_P_judge_37, r_P_judge_39, cf_ge88, ↓reduceIte, cf_pj_8]
    exact hQ
  | succ d ih =>
    intro k hk
    have h8 : k < 8 := by omega
    have ih1 := ih (k + 1) (by omega)
    rw [← cf_pj_u] at ih1
    have ep : cf_pj (w 18) p c (nI s) k k = w 18 (8 * p + k) := by
      unfold cf_pj cf_prC
      rw [if_neg (Nat.lt_irrefl k), if_pos h8]
    refine r_P_judge_36.mpr ?_
    simp only [r_P_judge_0, r_P_judge_1, r_P_judge_4, r_P_judge_7, r_P_judge_8, r_P_judge_9, r_P_judge_12, r_P_judge_13, r_P_judge_14, r_P_judge_17, r_P_judge_20, r_P_judge_21, r_P_judge_22, r_P_judge_23, r_P_judge_26, r_P_judge_27, r_P_judge_30, r_P_judge_31, r_P_judge_34, r_P_judge_35, r_P_judge_37, r_P_judge_39, r_P_judge_42, r_P_judge_43, r_P_judge_46, r_P_judge_47, r_P_judge_48, r_P_judge_51, r_P_judge_52, r_P_judge_53, r_P_judge_54, r_P_judge_55, r_P_judge_56, r_P_judge_57, r_P_judge_60, r_P_judge_61, r_P_judge_64, r_P_judge_66, r_P_judge_67, r_P_judge_70, r_P_judge_71, r_P_judge_72, r_P_judge_73, r_P_judge_74, r_P_judge_77, r_P_judge_78, r_P_judge_81, r_P_judge_82, r_P_judge_83, r_P_judge_84, r_P_judge_87, r_P_judge_91, r_P_judge_92, r_P_judge_95, r_P_judge_98, cf_ge8 h8, ↓reduceIte, cf_k4, bt_e1 (show k < 32 by omega), cf_wa_s, cf_wa_n, pk_us, pk_un, ne_eq, Nat.reduceEqDiff, not_false_eq_true, reduceCtorEq, h21, cf_8c, cf_in_nI h8 (by decide), nI_clamp (show k < 2 ^ 31 by omega), cf_in_nI (show 8 * c + k < 112 by omega) (by decide), nI_clamp (show 8 * c + k < 2 ^ 31 by omega), true_and, cf_wa_wa, nI_1, ep]
    cases hb : bt (nI s) k
    · have e : cf_prS (w 18) p c (nI s) k = w 18 (8 * p + k) := by
        unfold cf_prS
        simp [h8, hb]
      rw [e] at ih1
      simp only [reduceCtorEq, not_false_eq_true, ↓reduceIte]
      exact ih1
    · have e : cf_prS (w 18) p c (nI s) k = w 18 (8 * c + k) := by
        unfold cf_prS
        simp [h8, hb]
      rw [e] at ih1
      simp only [not_true_eq_false, ↓reduceIte]
      exact ih1
theorem sp_P_judgeS {w : cf_Wd} {c p s : Nat} (hc : c < 14) (hp : p < 14) (hs : s < 256) (h21 : w 15 21 = nI c) (h16 : w 16 c = nI p) (h22 : ∀ j, 8 ≤ j → w 22 j = 0) (hcd : ∀ j, j < 8 → cf_cd (w 18 (8 * c + j))) (hpd : ∀ j, j < 8 → cf_cd (w 18 (8 * p + j))) (hb : cf_bdd (w 24)) : ∃ r w1, F_P_judge [.inr 15, .inl (nI (1000 + s))] w = some (some (.inl r), w1) ∧ (cf_vd (cf_prS (w 18) p c (nI s)) (w 15 8) r ∧ w1 22 = cf_prS (w 18) p c (nI s) ∧ cf_bdd (w1 24) ∧ ∀ k, k ≠ 22 → k ≠ 23 → k ≠ 24 → k ≠ 25 → w1 k = w k) := by
  refine e_P_judge ?_
  have hl := sp_P_load (w := w) hp
  rw [cf_pl_C h22] at hl
  obtain ⟨r, w1, hj, hv, hb1, hfr⟩ := sp_P_run (w := cf_wa w 22 (cf_prS (w 18) p c (nI s))) (x := w 15 8) (by simp only [cf_wa_s, cf_wa_n, pk_us, pk_un, ne_eq, Nat.reduceEqDiff, not_false_eq_true, reduceCtorEq]; exact cf_prS_cd hpd hcd) (by simp only [cf_wa_s, cf_wa_n, pk_us, pk_un, ne_eq, Nat.reduceEqDiff, not_false_eq_true, reduceCtorEq]; exact hb)
  simp only [cf_wa_s, cf_wa_n, pk_us, pk_un, ne_eq, Nat.reduceEqDiff, not_false_eq_true, reduceCtorEq] at hv
  have h0 : cf_pj (w 18) p c (nI s) 0 = cf_prC (w 18) p := by
    funext j
    simp [cf_pj]
  have h := lp_P_judge (w := w) (p := p) hc hp hs h21 (Q := cf_qi (fun r w1 => cf_vd (cf_prS (w 18) p c (nI s)) (w 15 8) r ∧ w1 22 = cf_prS (w 18) p c (nI s) ∧ cf_bdd (w1 24) ∧ ∀ k, k ≠ 22 → k ≠ 23 → k ≠ 24 → k ≠ 25 → w1 k = w k)) (by
    simp only [r_P_judge_90, r_P_judge_91, r_P_judge_92, cf_wa_s, cf_wa_n, pk_us, pk_un, ne_eq, Nat.reduceEqDiff, not_false_eq_true, reduceCtorEq, c_P_judge_95 hj, r_P_judge_98]
    exact ⟨hv, (hfr 22 (by decide) (by decide) (by decide)).trans (cf_wa_s _ _ _), hb1, fun k k6 k7 k8 k9 => (hfr k k7 k8 k9).trans (cf_wa_n _ _ k6)⟩) 8 0 (by omega)
  rw [h0, nI_0] at h
  simp only [r_P_judge_0, r_P_judge_1, r_P_judge_4, cf_k6 hs, ↓reduceIte, r_P_judge_21, r_P_judge_22, r_P_judge_23, r_P_judge_26, r_P_judge_27, r_P_judge_30, h21, cf_in_nI hc (by decide), nI_clamp (show c < 2 ^ 31 by omega), h16, true_and, c_P_judge_31 hl, r_P_judge_34, r_P_judge_35]
  exact h
