/-! the reference: a program is built and run -/
theorem lp_P_isBuildable {w : cf_Wd} (hcd : ∀ j, j < 8 → cf_cd (w 22 j)) (hb : cf_bdd (w 24)) : ∀ d k x, k + d = 8 → ((x = 1 ∧ ∀ j, j < k → cf_okl (w 22) j) ∨ (x = 0 ∧ ¬ ∀ j, j < k → cf_okl (w 22) j)) → ∀ l3 l4 l5, cf_wp T_P_isBuildable (4, [some (.inr 15), some (.inl x), some (.inl (nI k)), l3, l4, l5], [], w) (cf_qb (fun x w1 => (∃ a' st', w1 = cf_wa (cf_wa w 24 st') 23 a' ∧ cf_bdd st' ∧ ((x = 1 ∧ (∀ j, j < 8 → cf_okl (w 22) j) ∧ ∃ q, cf_pO (w 22) q ∧ cf_pI (w 22) 8 [] q a' st') ∨ (x = 0 ∧ ¬ ((∀ j, j < 8 → cf_okl (w 22) j) ∧ ∃ q, cf_pO (w 22) q)))))) := by
  intro d
  induction d with
  | zero =>
    intro k x hk hx l3 l4 l5
    have e : k = 8 := by omega
    subst e
    refine r_P_isBuildable_4.mpr ?_
    obtain ⟨x1, w1, h1, a, st, e1, hst, hr⟩ := sp_P_pairs hcd hb
    simp only [r_P_isBuildable_0, r_P_isBuildable_1, r_P_isBuildable_2, r_P_isBuildable_3, r_P_isBuildable_5, r_P_isBuildable_7, r_P_isBuildable_10, r_P_isBuildable_11, r_P_isBuildable_12, r_P_isBuildable_15, r_P_isBuildable_16, r_P_isBuildable_17, r_P_isBuildable_18, c_P_isBuildable_19 sp_P_in, r_P_isBuildable_22, r_P_isBuildable_25, r_P_isBuildable_26, r_P_isBuildable_28, r_P_isBuildable_31, r_P_isBuildable_32, r_P_isBuildable_35, r_P_isBuildable_36, r_P_isBuildable_38, r_P_isBuildable_39, r_P_isBuildable_40, r_P_isBuildable_43, r_P_isBuildable_44, r_P_isBuildable_46, r_P_isBuildable_49, r_P_isBuildable_50, r_P_isBuildable_53, r_P_isBuildable_54, r_P_isBuildable_56, r_P_isBuildable_57, r_P_isBuildable_60, r_P_isBuildable_61, r_P_isBuildable_63, r_P_isBuildable_66, r_P_isBuildable_68, r_P_isBuildable_71, r_P_isBuildable_72, r_P_isBuildable_73, r_P_isBuildable_74, r_P_isBuildable_77, r_P_isBuildable_78, r_P_isBuildable_81, r_P_isBuildable_84, r_P_isBuildable_86, r_P_isBuildable_89, r_P_isBuildable_90, r_P_isBuildable_91, r_P_isBuildable_92, r_P_isBuildable_95, r_P_isBuildable_96, r_P_isBuildable_99, r_P_isBuildable_102, r_P_isBuildable_103, r_P_isBuildable_106, r_P_isBuildable_107, r_P_isBuildable_108, r_P_isBuildable_111, r_P_isBuildable_114, r_P_isBuildable_115, r_P_isBuildable_118, c_P_isBuildable_119 (h1), r_P_isBuildable_122, r_P_isBuildable_125, r_P_isBuildable_126, r_P_isBuildable_129, r_P_isBuildable_130, cf_ge88, ↓reduceIte]
    rcases hx with ⟨rfl, hx⟩ | ⟨rfl, hx⟩
    · simp only [cf_q_0_1, cf_q_0_2, cf_q_0_3, cf_q_0_4, cf_q_0_5, cf_q_0_6, cf_q_0_7, cf_q_0_8, cf_q_0_9, cf_q_1_0, cf_q_1_2, cf_q_1_3, cf_q_1_4, cf_q_1_5, cf_q_1_6, cf_q_1_7, cf_q_1_8, cf_q_1_9, cf_q_2_0, cf_q_2_1, cf_q_2_3, cf_q_2_4, cf_q_2_5, cf_q_2_6, cf_q_2_7, cf_q_2_8, cf_q_2_9, cf_q_3_0, cf_q_3_1, cf_q_3_2, cf_q_3_4, cf_q_3_5, cf_q_3_6, cf_q_3_7, cf_q_3_8, cf_q_3_9, cf_q_4_0, cf_q_4_1, cf_q_4_2, cf_q_4_3, cf_q_4_5, cf_q_4_6, cf_q_4_7, cf_q_4_8, cf_q_4_9, cf_q_5_0, cf_q_5_1, cf_q_5_2, cf_q_5_3, cf_q_5_4, cf_q_5_6, cf_q_5_7, cf_q_5_8, cf_q_5_9, cf_q_6_0, cf_q_6_1, cf_q_6_2, cf_q_6_3, cf_q_6_4, cf_q_6_5, cf_q_6_7, cf_q_6_8, cf_q_6_9, cf_q_7_0, cf_q_7_1, cf_q_7_2, cf_q_7_3, cf_q_7_4, cf_q_7_5, cf_q_7_6, cf_q_7_8, cf_q_7_9, cf_q_8_0, cf_q_8_1, cf_q_8_2, cf_q_8_3, cf_q_8_4, cf_q_8_5, cf_q_8_6, cf_q_8_7, cf_q_8_9, cf_q_9_0, cf_q_9_1, cf_q_9_2, cf_q_9_3, cf_q_9_4, cf_q_9_5, cf_q_9_6, cf_q_9_7, cf_q_9_8, ↓reduceIte]
      rcases hr with ⟨rfl, q, hq, hI⟩ | ⟨rfl, hq⟩
      · simp only [cf_q_0_1, cf_q_0_2, cf_q_0_3, cf_q_0_4, cf_q_0_5, cf_q_0_6, cf_q_0_7, cf_q_0_8, cf_q_0_9, cf_q_1_0, cf_q_1_2, cf_q_1_3, cf_q_1_4, cf_q_1_5, cf_q_1_6, cf_q_1_7, cf_q_1_8, cf_q_1_9, cf_q_2_0, cf_q_2_1, cf_q_2_3, cf_q_2_4, cf_q_2_5, cf_q_2_6, cf_q_2_7, cf_q_2_8, cf_q_2_9, cf_q_3_0, cf_q_3_1, cf_q_3_2, cf_q_3_4, cf_q_3_5, cf_q_3_6, cf_q_3_7, cf_q_3_8, cf_q_3_9, cf_q_4_0, cf_q_4_1, cf_q_4_2, cf_q_4_3, cf_q_4_5, cf_q_4_6, cf_q_4_7, cf_q_4_8, cf_q_4_9, cf_q_5_0, cf_q_5_1, cf_q_5_2, cf_q_5_3, cf_q_5_4, cf_q_5_6, cf_q_5_7, cf_q_5_8, cf_q_5_9, cf_q_6_0, cf_q_6_1, cf_q_6_2, cf_q_6_3, cf_q_6_4, cf_q_6_5, cf_q_6_7, cf_q_6_8, cf_q_6_9, cf_q_7_0, cf_q_7_1, cf_q_7_2, cf_q_7_3, cf_q_7_4, cf_q_7_5, cf_q_7_6, cf_q_7_8, cf_q_7_9, cf_q_8_0, cf_q_8_1, cf_q_8_2, cf_q_8_3, cf_q_8_4, cf_q_8_5, cf_q_8_6, cf_q_8_7, cf_q_8_9, cf_q_9_0, cf_q_9_1, cf_q_9_2, cf_q_9_3, cf_q_9_4, cf_q_9_5, cf_q_9_6, cf_q_9_7, cf_q_9_8, ↓reduceIte]
        exact ⟨by simp, a, st, e1, hst, Or.inl ⟨by simp, hx, q, hq, hI⟩⟩
      · simp only [↓reduceIte]
        exact ⟨by simp, a, st, e1, hst, Or.inr ⟨by simp, fun h => hq h.2⟩⟩
    · simp only [↓reduceIte]
      exact ⟨by simp, w 23, w 24, by rw [cf_wa_id (w := w) (k := 24) rfl, cf_wa_id (w := w) (k := 23) rfl], hb, Or.inr ⟨by simp, fun h => hx h.1⟩⟩
  | succ d ih =>
    intro k x hk hx l3 l4 l5
    have h8 : k < 8 := by omega
    have key0 := fun (h : ¬ ∀ j, j < k + 1 → cf_okl (w 22) j) => ih (k + 1) 0 (by omega) (Or.inr ⟨rfl, h⟩)
    have key1 := fun (h : ∀ j, j < k + 1 → cf_okl (w 22) j) => ih (k + 1) 1 (by omega) (Or.inl ⟨rfl, h⟩)
    obtain ⟨x1, w1, h1, h1r, e1⟩ := sp_P_isSet (w := w) (v := cf_lf (w 22 k)) (show k ≤ 8 by omega)
    obtain ⟨x2, w2, h2, h2r, e2⟩ := sp_P_isSet (w := w) (v := cf_rt (w 22 k)) (show k ≤ 8 by omega)
    rw [e1] at h1
    rw [e2] at h2
    refine r_P_isBuildable_4.mpr ?_
    rcases hx with ⟨rfl, hx⟩ | ⟨rfl, hx⟩
    · have k0 := fun (h : ¬ cf_okl (w 22) k) => key0 (fun x => h (x k (by omega)))
      have k1 := fun (h : cf_okl (w 22) k) => key1 (fun j hj => by
        by_cases e : j = k
        · subst e
          exact h
        · exact hx j (by omega))
      rcases h1r with ⟨rfl, i1⟩ | ⟨rfl, i1⟩ <;> rcases h2r with ⟨rfl, i2⟩ | ⟨rfl, i2⟩ <;> rcases cf_op10 (hcd k h8) with e | e | e | e | e | e | e | e | e | e <;>
        simp only [r_P_isBuildable_0, r_P_isBuildable_1, r_P_isBuildable_2, r_P_isBuildable_3, r_P_isBuildable_5, r_P_isBuildable_7, r_P_isBuildable_10, r_P_isBuildable_11, c_P_isBuildable_12 (sp_P_operation h8), r_P_isBuildable_15, r_P_isBuildable_16, r_P_isBuildable_17, r_P_isBuildable_18, c_P_isBuildable_19 sp_P_in, r_P_isBuildable_22, r_P_isBuildable_25, r_P_isBuildable_26, r_P_isBuildable_28, r_P_isBuildable_31, r_P_isBuildable_32, r_P_isBuildable_35, r_P_isBuildable_36, r_P_isBuildable_38, r_P_isBuildable_39, r_P_isBuildable_40, r_P_isBuildable_43, r_P_isBuildable_44, r_P_isBuildable_46, r_P_isBuildable_49, r_P_isBuildable_50, r_P_isBuildable_53, r_P_isBuildable_54, r_P_isBuildable_56, r_P_isBuildable_57, r_P_isBuildable_60, r_P_isBuildable_61, r_P_isBuildable_63, r_P_isBuildable_66, r_P_isBuildable_68, r_P_isBuildable_71, r_P_isBuildable_72, r_P_isBuildable_73, c_P_isBuildable_74 (sp_P_a h8), r_P_isBuildable_77, c_P_isBuildable_78 (h1), r_P_isBuildable_81, r_P_isBuildable_84, r_P_isBuildable_86, r_P_isBuildable_89, r_P_isBuildable_90, r_P_isBuildable_91, c_P_isBuildable_92 (sp_P_b h8), r_P_isBuildable_95, c_P_isBuildable_96 (h2), r_P_isBuildable_99, r_P_isBuildable_102, r_P_isBuildable_103, r_P_isBuildable_106, r_P_isBuildable_107, r_P_isBuildable_108, r_P_isBuildable_111, r_P_isBuildable_114, r_P_isBuildable_115, r_P_isBuildable_118, r_P_isBuildable_119, r_P_isBuildable_122, r_P_isBuildable_125, r_P_isBuildable_126, r_P_isBuildable_129, r_P_isBuildable_130, cf_ge8 h8, ↓reduceIte, nI_1, e, cf_n45_0, cf_n45_1, cf_n45_2, cf_n45_3, cf_n45_4, cf_n45_5, cf_n45_6, cf_n45_7, cf_n45_8, cf_n45_9, cf_n25_0, cf_n25_1, cf_n25_2, cf_n25_3, cf_n25_4, cf_n25_5, cf_n25_6, cf_n25_7, cf_n25_8, cf_n25_9, cf_g9_0, cf_g9_1, cf_g9_2, cf_g9_3, cf_g9_4, cf_g9_5, cf_g9_6, cf_g9_7, cf_g9_8, cf_g9_9, cf_b_e0, cf_q_0_1, cf_q_0_2, cf_q_0_3, cf_q_0_4, cf_q_0_5, cf_q_0_6, cf_q_0_7, cf_q_0_8, cf_q_0_9, cf_q_1_0, cf_q_1_2, cf_q_1_3, cf_q_1_4, cf_q_1_5, cf_q_1_6, cf_q_1_7, cf_q_1_8, cf_q_1_9, cf_q_2_0, cf_q_2_1, cf_q_2_3, cf_q_2_4, cf_q_2_5, cf_q_2_6, cf_q_2_7, cf_q_2_8, cf_q_2_9, cf_q_3_0, cf_q_3_1, cf_q_3_2, cf_q_3_4, cf_q_3_5, cf_q_3_6, cf_q_3_7, cf_q_3_8, cf_q_3_9, cf_q_4_0, cf_q_4_1, cf_q_4_2, cf_q_4_3, cf_q_4_5, cf_q_4_6, cf_q_4_7, cf_q_4_8, cf_q_4_9, cf_q_5_0, cf_q_5_1, cf_q_5_2, cf_q_5_3, cf_q_5_4, cf_q_5_6, cf_q_5_7, cf_q_5_8, cf_q_5_9, cf_q_6_0, cf_q_6_1, cf_q_6_2, cf_q_6_3, cf_q_6_4, cf_q_6_5, cf_q_6_7, cf_q_6_8, cf_q_6_9, cf_q_7_0, cf_q_7_1, cf_q_7_2, cf_q_7_3, cf_q_7_4, cf_q_7_5, cf_q_7_6, cf_q_7_8, cf_q_7_9, cf_q_8_0, cf_q_8_1, cf_q_8_2, cf_q_8_3, cf_q_8_4, cf_q_8_5, cf_q_8_6, cf_q_8_7, cf_q_8_9, cf_q_9_0, cf_q_9_1, cf_q_9_2, cf_q_9_3, cf_q_9_4, cf_q_9_5, cf_q_9_6, cf_q_9_7, cf_q_9_8, not_true_eq_false, not_false_eq_true, reduceCtorEq] <;>
        first
          | exact k1 (by simp [cf_okl, cf_rA, cf_rB, e, i1, i2]) _ _ _
          | exact k0 (by simp [cf_okl, cf_rA, cf_rB, e, i1, i2]) _ _ _
    · have k0 := key0 (fun x => hx (fun j hj => x j (by omega)))
      rcases cf_op10 (hcd k h8) with e | e | e | e | e | e | e | e | e | e <;>
        simp only [r_P_isBuildable_0, r_P_isBuildable_1, r_P_isBuildable_2, r_P_isBuildable_3, r_P_isBuildable_5, r_P_isBuildable_7, r_P_isBuildable_10, r_P_isBuildable_11, c_P_isBuildable_12 (sp_P_operation h8), r_P_isBuildable_15, r_P_isBuildable_16, r_P_isBuildable_17, r_P_isBuildable_18, c_P_isBuildable_19 sp_P_in, r_P_isBuildable_22, r_P_isBuildable_25, r_P_isBuildable_26, r_P_isBuildable_28, r_P_isBuildable_31, r_P_isBuildable_32, r_P_isBuildable_35, r_P_isBuildable_36, r_P_isBuildable_38, r_P_isBuildable_39, r_P_isBuildable_40, r_P_isBuildable_43, r_P_isBuildable_44, r_P_isBuildable_46, r_P_isBuildable_49, r_P_isBuildable_50, r_P_isBuildable_53, r_P_isBuildable_54, r_P_isBuildable_56, r_P_isBuildable_57, r_P_isBuildable_60, r_P_isBuildable_61, r_P_isBuildable_63, r_P_isBuildable_66, r_P_isBuildable_68, r_P_isBuildable_71, r_P_isBuildable_72, r_P_isBuildable_73, c_P_isBuildable_74 (sp_P_a h8), r_P_isBuildable_77, c_P_isBuildable_78 (h1), r_P_isBuildable_81, r_P_isBuildable_84, r_P_isBuildable_86, r_P_isBuildable_89, r_P_isBuildable_90, r_P_isBuildable_91, c_P_isBuildable_92 (sp_P_b h8), r_P_isBuildable_95, c_P_isBuildable_96 (h2), r_P_isBuildable_99, r_P_isBuildable_102, r_P_isBuildable_103, r_P_isBuildable_106, r_P_isBuildable_107, r_P_isBuildable_108, r_P_isBuildable_111, r_P_isBuildable_114, r_P_isBuildable_115, r_P_isBuildable_118, r_P_isBuildable_119, r_P_isBuildable_122, r_P_isBuildable_125, r_P_isBuildable_126, r_P_isBuildable_129, r_P_isBuildable_130, cf_ge8 h8, ↓reduceIte, nI_1, e, cf_n45_0, cf_n45_1, cf_n45_2, cf_n45_3, cf_n45_4, cf_n45_5, cf_n45_6, cf_n45_7, cf_n45_8, cf_n45_9, cf_n25_0, cf_n25_1, cf_n25_2, cf_n25_3, cf_n25_4, cf_n25_5, cf_n25_6, cf_n25_7, cf_n25_8, cf_n25_9, cf_g9_0, cf_g9_1, cf_g9_2, cf_g9_3, cf_g9_4, cf_g9_5, cf_g9_6, cf_g9_7, cf_g9_8, cf_g9_9, cf_b_e0, cf_q_0_1, cf_q_0_2, cf_q_0_3, cf_q_0_4, cf_q_0_5, cf_q_0_6, cf_q_0_7, cf_q_0_8, cf_q_0_9, cf_q_1_0, cf_q_1_2, cf_q_1_3, cf_q_1_4, cf_q_1_5, cf_q_1_6, cf_q_1_7, cf_q_1_8, cf_q_1_9, cf_q_2_0, cf_q_2_1, cf_q_2_3, cf_q_2_4, cf_q_2_5, cf_q_2_6, cf_q_2_7, cf_q_2_8, cf_q_2_9, cf_q_3_0, cf_q_3_1, cf_q_3_2, cf_q_3_4, cf_q_3_5, cf_q_3_6, cf_q_3_7, cf_q_3_8, cf_q_3_9, cf_q_4_0, cf_q_4_1, cf_q_4_2, cf_q_4_3, cf_q_4_5, cf_q_4_6, cf_q_4_7, cf_q_4_8, cf_q_4_9, cf_q_5_0, cf_q_5_1, cf_q_5_2, cf_q_5_3, cf_q_5_4, cf_q_5_6, cf_q_5_7, cf_q_5_8, cf_q_5_9, cf_q_6_0, cf_q_6_1, cf_q_6_2, cf_q_6_3, cf_q_6_4, cf_q_6_5, cf_q_6_7, cf_q_6_8, cf_q_6_9, cf_q_7_0, cf_q_7_1, cf_q_7_2, cf_q_7_3, cf_q_7_4, cf_q_7_5, cf_q_7_6, cf_q_7_8, cf_q_7_9, cf_q_8_0, cf_q_8_1, cf_q_8_2, cf_q_8_3, cf_q_8_4, cf_q_8_5, cf_q_8_6, cf_q_8_7, cf_q_8_9, cf_q_9_0, cf_q_9_1, cf_q_9_2, cf_q_9_3, cf_q_9_4, cf_q_9_5, cf_q_9_6, cf_q_9_7, cf_q_9_8, not_true_eq_false, not_false_eq_true, reduceCtorEq] <;>
        exact k0 _ _ _
theorem sp_P_isBuildable {w : cf_Wd} (hcd : ∀ j, j < 8 → cf_cd (w 22 j)) (hb : cf_bdd (w 24)) : ∃ x w1, F_P_isBuildable [.inr 15] w = some (some (.inl x), w1) ∧ (∃ a' st', w1 = cf_wa (cf_wa w 24 st') 23 a' ∧ cf_bdd st' ∧ ((x = 1 ∧ (∀ j, j < 8 → cf_okl (w 22) j) ∧ ∃ q, cf_pO (w 22) q ∧ cf_pI (w 22) 8 [] q a' st') ∨ (x = 0 ∧ ¬ ((∀ j, j < 8 → cf_okl (w 22) j) ∧ ∃ q, cf_pO (w 22) q)))) := by
  refine e_P_isBuildable ?_
  simp only [r_P_isBuildable_0, r_P_isBuildable_1, r_P_isBuildable_2, r_P_isBuildable_3]
  have h := lp_P_isBuildable hcd hb 8 0 1 (by omega) (Or.inl ⟨rfl, fun j hj => absurd hj (Nat.not_lt_zero j)⟩) none none none
  rw [nI_0] at h
  exact h
/-! what is set: the class's mask, the reference's search -/
theorem cf_mk_bt {p : Nat → Int32} (hcd : ∀ j, j < 8 → cf_cd (p j)) {v : Nat} (hv : v < 10) : ∀ k, k ≤ 8 → (bt (cf_mk p k) v = true ↔ cf_ist p (nI v) k) := by
  intro k
  induction k with
  | zero =>
    intro _
    show bt 1 v = true ↔ _
    rw [bt_1 v (by omega)]
    constructor
    · intro h
      have e : v = 0 := of_decide_eq_true h
      subst e
      exact Or.inl nI_0
    · intro h
      rcases h with h | ⟨j, hj, _⟩
      · exact decide_eq_true ((cf_ne0 (by omega)).mp h)
      · exact absurd hj (Nat.not_lt_zero j)
  | succ k ih =>
    intro hk
    have ih := ih (by omega)
    obtain ⟨o, l, r, ho, hl, hr, eo, el, er⟩ := cf_cd_p (hcd k (by omega))
    rw [cf_ist_s]
    by_cases h1 : cf_op (p k) = 1 ∨ cf_op (p k) = 8
    · rw [show cf_mk p (k + 1) = cf_mk p k ||| 1 <<< (cf_lf (p k) &&& 31) from if_pos h1, b_or, el, bt_sh (by omega) (by omega), Bool.or_eq_true, ih, decide_eq_true_eq, nI_eq (by omega) (by omega)]
      constructor
      · intro h
        rcases h with h | h
        · exact Or.inl h
        · exact Or.inr ⟨h1, h.symm⟩
      · intro h
        rcases h with h | ⟨_, h⟩
        · exact Or.inl h
        · exact Or.inr h.symm
    · rw [show cf_mk p (k + 1) = cf_mk p k from if_neg h1, ih]
      constructor
      · exact Or.inl
      · intro h
        rcases h with h | ⟨h, _⟩
        · exact h
        · exact absurd h h1
theorem cf_and_m {l : Nat} (hl : l < 32) (m : Int32) : (1 <<< (nI l &&& 31) &&& (m ^^^ -1) = 0) ↔ bt m l = true := by
  constructor
  · intro h
    have h1 := congrArg (fun y => bt y l) h
    simp only [b_and, b_xor, b_0, bt_sh hl hl, b_m1 l hl] at h1
    simpa using h1
  · intro h
    apply b_ext
    intro i hi
    rw [b_and, b_xor, b_0, bt_sh hl hi, b_m1 i hi]
    by_cases e : i = l
    · subst e; simp [h]
    · simp [e]
theorem cf_or0 (x y m : Int32) : ((x ||| y) &&& m = 0) ↔ (x &&& m = 0 ∧ y &&& m = 0) := by
  constructor
  · intro h
    have hb : ∀ i, ((bt x i || bt y i) && bt m i) = false := fun i => by
      have h1 := congrArg (fun z => bt z i) h
      simp only [b_and, b_or, b_0] at h1
      exact h1
    constructor
    · apply b_ext
      intro i _
      rw [b_and, b_0]
      have := hb i
      cases hx : bt x i <;> cases hm : bt m i <;> simp [hx, hm] at this ⊢
    · apply b_ext
      intro i _
      rw [b_and, b_0]
      have := hb i
      cases hx : bt y i <;> cases hm : bt m i <;> simp [hx, hm] at this ⊢
  · intro ⟨h1, h2⟩
    apply b_ext
    intro i _
    have e1 := congrArg (fun z => bt z i) h1
    have e2 := congrArg (fun z => bt z i) h2
    simp only [b_and, b_0] at e1 e2
    rw [b_and, b_or, b_0]
    cases hm : bt m i
    · simp
    · rw [hm] at e1 e2
      simp at e1 e2
      simp [e1, e2]
theorem cf_sb_ok {p : Nat → Int32} (hcd : ∀ j, j < 8 → cf_cd (p j)) {k : Nat} (hk : k < 8) : (cf_rv (p k) &&& (cf_mk p k ^^^ -1) = 0) ↔ ((cf_rA (p k) → cf_ist p (cf_lf (p k)) k) ∧ (cf_rB (p k) → cf_ist p (cf_rt (p k)) k)) := by
  obtain ⟨o, l, r, ho, hl, hr, eo, el, er⟩ := cf_cd_p (hcd k hk)
  have hL := (cf_and_m (show l < 32 by omega) (cf_mk p k)).trans (cf_mk_bt hcd hl k (by omega))
  have hR := (cf_and_m (show r < 32 by omega) (cf_mk p k)).trans (cf_mk_bt hcd hr k (by omega))
  have z : ∀ m : Int32, 0 &&& m = 0 := fun m => by
    apply b_ext
    intro i _
    rw [b_and, b_0]
    rfl
  have nx : ∀ m : Int32, m ^^^ -1 = ~~~m := fun m => by simp
  rw [← el, nx] at hL
  rw [← er, nx] at hR
  unfold cf_rv cf_rA cf_rB
  rcases cf_op10 (hcd k hk) with e | e | e | e | e | e | e | e | e | e <;> simp [e, z, hL, hR, cf_or0]
theorem cf_bld_iff {p : Nat → Int32} (hcd : ∀ j, j < 8 → cf_cd (p j)) : cf_bld p ↔ ((∀ j, j < 8 → cf_okl p j) ∧ ∃ q, cf_pO p q) := by
  constructor
  · intro ⟨h1, h2, h3⟩
    refine ⟨fun j hj => ?_, h2⟩
    have h := (cf_sb_ok hcd hj).mp (h3 j hj)
    exact ⟨h1 j hj, h.1, h.2⟩
  · intro ⟨h1, h2⟩
    exact ⟨fun j hj => (h1 j hj).1, h2, fun j hj => (cf_sb_ok hcd hj).mpr ⟨(h1 j hj).2.1, (h1 j hj).2.2⟩⟩
/-! the reference: run -/
theorem lp_P_run {w : cf_Wd} {x : Int32} (hp : ∀ j, j < 8 → cf_cd (w 22 j)) (hq : ∀ j, j < 8 → cf_pk (w 22 j) → ∃ i, i < 8 ∧ w 23 j = nI i) : ∀ f s v j, s + f = 80 → j ≤ 8 → ∀ l4 l5, cf_wp T_P_run (42, [some (.inr 15), some (.inl x), some (.inl (nI j)), some (.inl (nI s)), l4, l5], [], cf_wa w 25 v) (cf_qi (fun r w1 => r = cf_rn (w 22) (w 23) f v (nI j) ∧ ∃ v', w1 = cf_wa w 25 v')) := by
  intro f
  have e80 : (80 : Int32) = nI 80 := by decide +kernel
  induction f with
  | zero =>
    intro s v j hs hj l4 l5
    have e : s = 80 := by omega
    subst e
    have hc : (nI 80 + 1 ≤ (80 : Int32)) = False := eq_false (by decide +kernel)
    refine r_P_run_42.mpr ?_
    by_cases h8 : j = 8
    · subst h8
      simp only [r_P_run_43, r_P_run_45, cf_ge88, ↓reduceIte, r_P_run_293, r_P_run_294, cf_rn_end]
      exact ⟨by simp, v, rfl⟩
    · have hk : j < 8 := by omega
      simp only [r_P_run_43, r_P_run_45, cf_ge8 hk, ↓reduceIte, r_P_run_48, r_P_run_49, r_P_run_50, r_P_run_51, r_P_run_52, r_P_run_53, r_P_run_55, hc, r_P_run_58, r_P_run_59, cf_rn]
      exact ⟨by simp, v, rfl⟩
  | succ f ih =>
    intro s v j hs hj l4 l5
    have hc : (nI (s + 1) ≤ (80 : Int32)) = True := by
      rw [e80]
      exact eq_true (nI_le (by omega) (by decide))
    refine r_P_run_42.mpr ?_
    by_cases h8 : j = 8
    · subst h8
      simp only [r_P_run_43, r_P_run_45, cf_ge88, ↓reduceIte, r_P_run_293, r_P_run_294, cf_rn_end]
      exact ⟨by simp, v, rfl⟩
    · have hk : j < 8 := by omega
      obtain ⟨o, l, r, ho, hl, hr, eo, el, er⟩ := cf_cd_p (hp j hk)
      have il := cf_in_nI hl (show 10 < 2 ^ 31 by decide)
      have ir := cf_in_nI hr (show 10 < 2 ^ 31 by decide)
      have ik := cf_in_nI hk (show 8 < 2 ^ 31 by decide)
      have nl := nI_clamp (show l < 2 ^ 31 by omega)
      have nr := nI_clamp (show r < 2 ^ 31 by omega)
      have nk := nI_clamp (show j < 2 ^ 31 by omega)
      have m1 : ¬ nI (j + 1) = -1 := by rw [cf_m1 (show j + 1 < 2 ^ 31 by omega)]; exact id
      have step := fun v i hi => ih (s + 1) v i (by omega) hi
      rw [cf_rn_s hk]
      rcases cf_op10 (hp j hk) with e | e | e | e | e | e | e | e | e | e
      · rw [cf_nx_0 (Or.inl e), if_neg m1]
        simp only [r_P_run_0, r_P_run_1, r_P_run_4, r_P_run_7, r_P_run_8, r_P_run_9, r_P_run_10, r_P_run_11, r_P_run_12, r_P_run_14, r_P_run_17, r_P_run_18, r_P_run_21, r_P_run_22, r_P_run_23, r_P_run_26, r_P_run_27, r_P_run_30, r_P_run_31, r_P_run_32, r_P_run_35, r_P_run_38, r_P_run_39, r_P_run_40, r_P_run_41, r_P_run_43, r_P_run_45, r_P_run_48, r_P_run_49, r_P_run_50, r_P_run_51, r_P_run_52, r_P_run_53, r_P_run_55, r_P_run_58, r_P_run_59, r_P_run_60, r_P_run_61, c_P_run_62 (sp_P_operation hk), r_P_run_65, r_P_run_67, r_P_run_68, r_P_run_69, r_P_run_70, r_P_run_72, r_P_run_74, r_P_run_75, r_P_run_78, r_P_run_79, r_P_run_82, r_P_run_83, c_P_run_84 (sp_P_a hk), r_P_run_87, r_P_run_88, c_P_run_89 (sp_P_b hk), r_P_run_92, r_P_run_93, r_P_run_95, r_P_run_96, r_P_run_99, r_P_run_100, r_P_run_103, r_P_run_104, c_P_run_105 (sp_P_a hk), r_P_run_108, r_P_run_109, r_P_run_112, r_P_run_113, c_P_run_114 (sp_P_a hk), r_P_run_117, r_P_run_118, r_P_run_119, r_P_run_122, r_P_run_123, c_P_run_124 (sp_P_b hk), r_P_run_127, r_P_run_128, r_P_run_129, r_P_run_130, r_P_run_132, r_P_run_133, r_P_run_136, r_P_run_137, r_P_run_140, r_P_run_141, c_P_run_142 (sp_P_a hk), r_P_run_145, r_P_run_146, r_P_run_149, r_P_run_150, r_P_run_153, r_P_run_154, c_P_run_155 (sp_P_a hk), r_P_run_158, r_P_run_159, r_P_run_162, r_P_run_163, c_P_run_164 (sp_P_a hk), r_P_run_167, r_P_run_168, r_P_run_169, r_P_run_170, r_P_run_171, r_P_run_173, r_P_run_174, c_P_run_175 sp_P_in, r_P_run_178, r_P_run_181, r_P_run_182, r_P_run_185, r_P_run_186, c_P_run_187 (sp_P_a hk), r_P_run_190, r_P_run_191, r_P_run_194, r_P_run_195, r_P_run_198, r_P_run_199, r_P_run_200, r_P_run_201, r_P_run_202, r_P_run_204, r_P_run_206, r_P_run_208, r_P_run_211, r_P_run_212, r_P_run_213, r_P_run_216, r_P_run_217, r_P_run_218, r_P_run_221, r_P_run_222, r_P_run_225, r_P_run_226, r_P_run_229, r_P_run_230, r_P_run_231, r_P_run_233, r_P_run_235, r_P_run_237, r_P_run_240, r_P_run_241, r_P_run_244, r_P_run_245, c_P_run_246 (sp_P_a hk), r_P_run_249, r_P_run_250, r_P_run_251, c_P_run_252 (sp_P_b hk), r_P_run_255, r_P_run_258, r_P_run_259, r_P_run_260, r_P_run_262, r_P_run_264, r_P_run_267, r_P_run_268, r_P_run_271, r_P_run_272, c_P_run_273 (sp_P_a hk), r_P_run_276, r_P_run_277, r_P_run_280, r_P_run_281, c_P_run_282 (sp_P_b hk), r_P_run_285, r_P_run_286, r_P_run_287, r_P_run_289, r_P_run_290, r_P_run_293, r_P_run_294, hc, cf_ge8 hk, ↓reduceIte, e, el, er, il, ir, ik, nl, nr, nk, true_and, cf_wa_s, cf_wa_n, pk_us, pk_un, ne_eq, Nat.reduceEqDiff, not_false_eq_true, reduceCtorEq, nI_1, cf_wa_wa, cf_n45_0, cf_n45_1, cf_n45_2, cf_n45_3, cf_n45_4, cf_n45_5, cf_n45_6, cf_n45_7, cf_n45_8, cf_n45_9, cf_n25_0, cf_n25_1, cf_n25_2, cf_n25_3, cf_n25_4, cf_n25_5, cf_n25_6, cf_n25_7, cf_n25_8, cf_n25_9, cf_g9_0, cf_g9_1, cf_g9_2, cf_g9_3, cf_g9_4, cf_g9_5, cf_g9_6, cf_g9_7, cf_g9_8, cf_g9_9, cf_q_0_1, cf_q_0_2, cf_q_0_3, cf_q_0_4, cf_q_0_5, cf_q_0_6, cf_q_0_7, cf_q_0_8, cf_q_0_9, cf_q_1_0, cf_q_1_2, cf_q_1_3, cf_q_1_4, cf_q_1_5, cf_q_1_6, cf_q_1_7, cf_q_1_8, cf_q_1_9, cf_q_2_0, cf_q_2_1, cf_q_2_3, cf_q_2_4, cf_q_2_5, cf_q_2_6, cf_q_2_7, cf_q_2_8, cf_q_2_9, cf_q_3_0, cf_q_3_1, cf_q_3_2, cf_q_3_4, cf_q_3_5, cf_q_3_6, cf_q_3_7, cf_q_3_8, cf_q_3_9, cf_q_4_0, cf_q_4_1, cf_q_4_2, cf_q_4_3, cf_q_4_5, cf_q_4_6, cf_q_4_7, cf_q_4_8, cf_q_4_9, cf_q_5_0, cf_q_5_1, cf_q_5_2, cf_q_5_3, cf_q_5_4, cf_q_5_6, cf_q_5_7, cf_q_5_8, cf_q_5_9, cf_q_6_0, cf_q_6_1, cf_q_6_2, cf_q_6_3, cf_q_6_4, cf_q_6_5, cf_q_6_7, cf_q_6_8, cf_q_6_9, cf_q_7_0, cf_q_7_1, cf_q_7_2, cf_q_7_3, cf_q_7_4, cf_q_7_5, cf_q_7_6, cf_q_7_8, cf_q_7_9, cf_q_8_0, cf_q_8_1, cf_q_8_2, cf_q_8_3, cf_q_8_4, cf_q_8_5, cf_q_8_6, cf_q_8_7, cf_q_8_9, cf_q_9_0, cf_q_9_1, cf_q_9_2, cf_q_9_3, cf_q_9_4, cf_q_9_5, cf_q_9_6, cf_q_9_7, cf_q_9_8, cf_b_e0, not_true_eq_false, not_false_eq_true, reduceCtorEq]
        exact step _ (j + 1) (by omega) _ _
      · rw [cf_nx_1 e, if_neg m1]
        simp only [r_P_run_0, r_P_run_1, r_P_run_4, r_P_run_7, r_P_run_8, r_P_run_9, r_P_run_10, r_P_run_11, r_P_run_12, r_P_run_14, r_P_run_17, r_P_run_18, r_P_run_21, r_P_run_22, r_P_run_23, r_P_run_26, r_P_run_27, r_P_run_30, r_P_run_31, r_P_run_32, r_P_run_35, r_P_run_38, r_P_run_39, r_P_run_40, r_P_run_41, r_P_run_43, r_P_run_45, r_P_run_48, r_P_run_49, r_P_run_50, r_P_run_51, r_P_run_52, r_P_run_53, r_P_run_55, r_P_run_58, r_P_run_59, r_P_run_60, r_P_run_61, c_P_run_62 (sp_P_operation hk), r_P_run_65, r_P_run_67, r_P_run_68, r_P_run_69, r_P_run_70, r_P_run_72, r_P_run_74, r_P_run_75, r_P_run_78, r_P_run_79, r_P_run_82, r_P_run_83, c_P_run_84 (sp_P_a hk), r_P_run_87, r_P_run_88, c_P_run_89 (sp_P_b hk), r_P_run_92, r_P_run_93, r_P_run_95, r_P_run_96, r_P_run_99, r_P_run_100, r_P_run_103, r_P_run_104, c_P_run_105 (sp_P_a hk), r_P_run_108, r_P_run_109, r_P_run_112, r_P_run_113, c_P_run_114 (sp_P_a hk), r_P_run_117, r_P_run_118, r_P_run_119, r_P_run_122, r_P_run_123, c_P_run_124 (sp_P_b hk), r_P_run_127, r_P_run_128, r_P_run_129, r_P_run_130, r_P_run_132, r_P_run_133, r_P_run_136, r_P_run_137, r_P_run_140, r_P_run_141, c_P_run_142 (sp_P_a hk), r_P_run_145, r_P_run_146, r_P_run_149, r_P_run_150, r_P_run_153, r_P_run_154, c_P_run_155 (sp_P_a hk), r_P_run_158, r_P_run_159, r_P_run_162, r_P_run_163, c_P_run_164 (sp_P_a hk), r_P_run_167, r_P_run_168, r_P_run_169, r_P_run_170, r_P_run_171, r_P_run_173, r_P_run_174, c_P_run_175 sp_P_in, r_P_run_178, r_P_run_181, r_P_run_182, r_P_run_185, r_P_run_186, c_P_run_187 (sp_P_a hk), r_P_run_190, r_P_run_191, r_P_run_194, r_P_run_195, r_P_run_198, r_P_run_199, r_P_run_200, r_P_run_201, r_P_run_202, r_P_run_204, r_P_run_206, r_P_run_208, r_P_run_211, r_P_run_212, r_P_run_213, r_P_run_216, r_P_run_217, r_P_run_218, r_P_run_221, r_P_run_222, r_P_run_225, r_P_run_226, r_P_run_229, r_P_run_230, r_P_run_231, r_P_run_233, r_P_run_235, r_P_run_237, r_P_run_240, r_P_run_241, r_P_run_244, r_P_run_245, c_P_run_246 (sp_P_a hk), r_P_run_249, r_P_run_250, r_P_run_251, c_P_run_252 (sp_P_b hk), r_P_run_255, r_P_run_258, r_P_run_259, r_P_run_260, r_P_run_262, r_P_run_264, r_P_run_267, r_P_run_268, r_P_run_271, r_P_run_272, c_P_run_273 (sp_P_a hk), r_P_run_276, r_P_run_277, r_P_run_280, r_P_run_281, c_P_run_282 (sp_P_b hk), r_P_run_285, r_P_run_286, r_P_run_287, r_P_run_289, r_P_run_290, r_P_run_293, r_P_run_294, hc, cf_ge8 hk, ↓reduceIte, e, el, er, il, ir, ik, nl, nr, nk, true_and, cf_wa_s, cf_wa_n, pk_us, pk_un, ne_eq, Nat.reduceEqDiff, not_false_eq_true, reduceCtorEq, nI_1, cf_wa_wa, cf_n45_0, cf_n45_1, cf_n45_2, cf_n45_3, cf_n45_4, cf_n45_5, cf_n45_6, cf_n45_7, cf_n45_8, cf_n45_9, cf_n25_0, cf_n25_1, cf_n25_2, cf_n25_3, cf_n25_4, cf_n25_5, cf_n25_6, cf_n25_7, cf_n25_8, cf_n25_9, cf_g9_0, cf_g9_1, cf_g9_2, cf_g9_3, cf_g9_4, cf_g9_5, cf_g9_6, cf_g9_7, cf_g9_8, cf_g9_9, cf_q_0_1, cf_q_0_2, cf_q_0_3, cf_q_0_4, cf_q_0_5, cf_q_0_6, cf_q_0_7, cf_q_0_8, cf_q_0_9, cf_q_1_0, cf_q_1_2, cf_q_1_3, cf_q_1_4, cf_q_1_5, cf_q_1_6, cf_q_1_7, cf_q_1_8, cf_q_1_9, cf_q_2_0, cf_q_2_1, cf_q_2_3, cf_q_2_4, cf_q_2_5, cf_q_2_6, cf_q_2_7, cf_q_2_8, cf_q_2_9, cf_q_3_0, cf_q_3_1, cf_q_3_2, cf_q_3_4, cf_q_3_5, cf_q_3_6, cf_q_3_7, cf_q_3_8, cf_q_3_9, cf_q_4_0, cf_q_4_1, cf_q_4_2, cf_q_4_3, cf_q_4_5, cf_q_4_6, cf_q_4_7, cf_q_4_8, cf_q_4_9, cf_q_5_0, cf_q_5_1, cf_q_5_2, cf_q_5_3, cf_q_5_4, cf_q_5_6, cf_q_5_7, cf_q_5_8, cf_q_5_9, cf_q_6_0, cf_q_6_1, cf_q_6_2, cf_q_6_3, cf_q_6_4, cf_q_6_5, cf_q_6_7, cf_q_6_8, cf_q_6_9, cf_q_7_0, cf_q_7_1, cf_q_7_2, cf_q_7_3, cf_q_7_4, cf_q_7_5, cf_q_7_6, cf_q_7_8, cf_q_7_9, cf_q_8_0, cf_q_8_1, cf_q_8_2, cf_q_8_3, cf_q_8_4, cf_q_8_5, cf_q_8_6, cf_q_8_7, cf_q_8_9, cf_q_9_0, cf_q_9_1, cf_q_9_2, cf_q_9_3, cf_q_9_4, cf_q_9_5, cf_q_9_6, cf_q_9_7, cf_q_9_8, cf_b_e0, not_true_eq_false, not_false_eq_true, reduceCtorEq]
        exact step _ (j + 1) (by omega) _ _
      · rw [cf_nx_2 e, if_neg m1]
        simp only [r_P_run_0, r_P_run_1, r_P_run_4, r_P_run_7, r_P_run_8, r_P_run_9, r_P_run_10, r_P_run_11, r_P_run_12, r_P_run_14, r_P_run_17, r_P_run_18, r_P_run_21, r_P_run_22, r_P_run_23, r_P_run_26, r_P_run_27, r_P_run_30, r_P_run_31, r_P_run_32, r_P_run_35, r_P_run_38, r_P_run_39, r_P_run_40, r_P_run_41, r_P_run_43, r_P_run_45, r_P_run_48, r_P_run_49, r_P_run_50, r_P_run_51, r_P_run_52, r_P_run_53, r_P_run_55, r_P_run_58, r_P_run_59, r_P_run_60, r_P_run_61, c_P_run_62 (sp_P_operation hk), r_P_run_65, r_P_run_67, r_P_run_68, r_P_run_69, r_P_run_70, r_P_run_72, r_P_run_74, r_P_run_75, r_P_run_78, r_P_run_79, r_P_run_82, r_P_run_83, c_P_run_84 (sp_P_a hk), r_P_run_87, r_P_run_88, c_P_run_89 (sp_P_b hk), r_P_run_92, r_P_run_93, r_P_run_95, r_P_run_96, r_P_run_99, r_P_run_100, r_P_run_103, r_P_run_104, c_P_run_105 (sp_P_a hk), r_P_run_108, r_P_run_109, r_P_run_112, r_P_run_113, c_P_run_114 (sp_P_a hk), r_P_run_117, r_P_run_118, r_P_run_119, r_P_run_122, r_P_run_123, c_P_run_124 (sp_P_b hk), r_P_run_127, r_P_run_128, r_P_run_129, r_P_run_130, r_P_run_132, r_P_run_133, r_P_run_136, r_P_run_137, r_P_run_140, r_P_run_141, c_P_run_142 (sp_P_a hk), r_P_run_145, r_P_run_146, r_P_run_149, r_P_run_150, r_P_run_153, r_P_run_154, c_P_run_155 (sp_P_a hk), r_P_run_158, r_P_run_159, r_P_run_162, r_P_run_163, c_P_run_164 (sp_P_a hk), r_P_run_167, r_P_run_168, r_P_run_169, r_P_run_170, r_P_run_171, r_P_run_173, r_P_run_174, c_P_run_175 sp_P_in, r_P_run_178, r_P_run_181, r_P_run_182, r_P_run_185, r_P_run_186, c_P_run_187 (sp_P_a hk), r_P_run_190, r_P_run_191, r_P_run_194, r_P_run_195, r_P_run_198, r_P_run_199, r_P_run_200, r_P_run_201, r_P_run_202, r_P_run_204, r_P_run_206, r_P_run_208, r_P_run_211, r_P_run_212, r_P_run_213, r_P_run_216, r_P_run_217, r_P_run_218, r_P_run_221, r_P_run_222, r_P_run_225, r_P_run_226, r_P_run_229, r_P_run_230, r_P_run_231, r_P_run_233, r_P_run_235, r_P_run_237, r_P_run_240, r_P_run_241, r_P_run_244, r_P_run_245, c_P_run_246 (sp_P_a hk), r_P_run_249, r_P_run_250, r_P_run_251, c_P_run_252 (sp_P_b hk), r_P_run_255, r_P_run_258, r_P_run_259, r_P_run_260, r_P_run_262, r_P_run_264, r_P_run_267, r_P_run_268, r_P_run_271, r_P_run_272, c_P_run_273 (sp_P_a hk), r_P_run_276, r_P_run_277, r_P_run_280, r_P_run_281, c_P_run_282 (sp_P_b hk), r_P_run_285, r_P_run_286, r_P_run_287, r_P_run_289, r_P_run_290, r_P_run_293, r_P_run_294, hc, cf_ge8 hk, ↓reduceIte, e, el, er, il, ir, ik, nl, nr, nk, true_and, cf_wa_s, cf_wa_n, pk_us, pk_un, ne_eq, Nat.reduceEqDiff, not_false_eq_true, reduceCtorEq, nI_1, cf_wa_wa, cf_n45_0, cf_n45_1, cf_n45_2, cf_n45_3, cf_n45_4, cf_n45_5, cf_n45_6, cf_n45_7, cf_n45_8, cf_n45_9, cf_n25_0, cf_n25_1, cf_n25_2, cf_n25_3, cf_n25_4, cf_n25_5, cf_n25_6, cf_n25_7, cf_n25_8, cf_n25_9, cf_g9_0, cf_g9_1, cf_g9_2, cf_g9_3, cf_g9_4, cf_g9_5, cf_g9_6, cf_g9_7, cf_g9_8, cf_g9_9, cf_q_0_1, cf_q_0_2, cf_q_0_3, cf_q_0_4, cf_q_0_5, cf_q_0_6, cf_q_0_7, cf_q_0_8, cf_q_0_9, cf_q_1_0, cf_q_1_2, cf_q_1_3, cf_q_1_4, cf_q_1_5, cf_q_1_6, cf_q_1_7, cf_q_1_8, cf_q_1_9, cf_q_2_0, cf_q_2_1, cf_q_2_3, cf_q_2_4, cf_q_2_5, cf_q_2_6, cf_q_2_7, cf_q_2_8, cf_q_2_9, cf_q_3_0, cf_q_3_1, cf_q_3_2, cf_q_3_4, cf_q_3_5, cf_q_3_6, cf_q_3_7, cf_q_3_8, cf_q_3_9, cf_q_4_0, cf_q_4_1, cf_q_4_2, cf_q_4_3, cf_q_4_5, cf_q_4_6, cf_q_4_7, cf_q_4_8, cf_q_4_9, cf_q_5_0, cf_q_5_1, cf_q_5_2, cf_q_5_3, cf_q_5_4, cf_q_5_6, cf_q_5_7, cf_q_5_8, cf_q_5_9, cf_q_6_0, cf_q_6_1, cf_q_6_2, cf_q_6_3, cf_q_6_4, cf_q_6_5, cf_q_6_7, cf_q_6_8, cf_q_6_9, cf_q_7_0, cf_q_7_1, cf_q_7_2, cf_q_7_3, cf_q_7_4, cf_q_7_5, cf_q_7_6, cf_q_7_8, cf_q_7_9, cf_q_8_0, cf_q_8_1, cf_q_8_2, cf_q_8_3, cf_q_8_4, cf_q_8_5, cf_q_8_6, cf_q_8_7, cf_q_8_9, cf_q_9_0, cf_q_9_1, cf_q_9_2, cf_q_9_3, cf_q_9_4, cf_q_9_5, cf_q_9_6, cf_q_9_7, cf_q_9_8, cf_b_e0, not_true_eq_false, not_false_eq_true, reduceCtorEq]
        exact step _ (j + 1) (by omega) _ _
      · rw [cf_nx_3 e, if_neg m1]
        simp only [r_P_run_0, r_P_run_1, r_P_run_4, r_P_run_7, r_P_run_8, r_P_run_9, r_P_run_10, r_P_run_11, r_P_run_12, r_P_run_14, r_P_run_17, r_P_run_18, r_P_run_21, r_P_run_22, r_P_run_23, r_P_run_26, r_P_run_27, r_P_run_30, r_P_run_31, r_P_run_32, r_P_run_35, r_P_run_38, r_P_run_39, r_P_run_40, r_P_run_41, r_P_run_43, r_P_run_45, r_P_run_48, r_P_run_49, r_P_run_50, r_P_run_51, r_P_run_52, r_P_run_53, r_P_run_55, r_P_run_58, r_P_run_59, r_P_run_60, r_P_run_61, c_P_run_62 (sp_P_operation hk), r_P_run_65, r_P_run_67, r_P_run_68, r_P_run_69, r_P_run_70, r_P_run_72, r_P_run_74, r_P_run_75, r_P_run_78, r_P_run_79, r_P_run_82, r_P_run_83, c_P_run_84 (sp_P_a hk), r_P_run_87, r_P_run_88, c_P_run_89 (sp_P_b hk), r_P_run_92, r_P_run_93, r_P_run_95, r_P_run_96, r_P_run_99, r_P_run_100, r_P_run_103, r_P_run_104, c_P_run_105 (sp_P_a hk), r_P_run_108, r_P_run_109, r_P_run_112, r_P_run_113, c_P_run_114 (sp_P_a hk), r_P_run_117, r_P_run_118, r_P_run_119, r_P_run_122, r_P_run_123, c_P_run_124 (sp_P_b hk), r_P_run_127, r_P_run_128, r_P_run_129, r_P_run_130, r_P_run_132, r_P_run_133, r_P_run_136, r_P_run_137, r_P_run_140, r_P_run_141, c_P_run_142 (sp_P_a hk), r_P_run_145, r_P_run_146, r_P_run_149, r_P_run_150, r_P_run_153, r_P_run_154, c_P_run_155 (sp_P_a hk), r_P_run_158, r_P_run_159, r_P_run_162, r_P_run_163, c_P_run_164 (sp_P_a hk), r_P_run_167, r_P_run_168, r_P_run_169, r_P_run_170, r_P_run_171, r_P_run_173, r_P_run_174, c_P_run_175 sp_P_in, r_P_run_178, r_P_run_181, r_P_run_182, r_P_run_185, r_P_run_186, c_P_run_187 (sp_P_a hk), r_P_run_190, r_P_run_191, r_P_run_194, r_P_run_195, r_P_run_198, r_P_run_199, r_P_run_200, r_P_run_201, r_P_run_202, r_P_run_204, r_P_run_206, r_P_run_208, r_P_run_211, r_P_run_212, r_P_run_213, r_P_run_216, r_P_run_217, r_P_run_218, r_P_run_221, r_P_run_222, r_P_run_225, r_P_run_226, r_P_run_229, r_P_run_230, r_P_run_231, r_P_run_233, r_P_run_235, r_P_run_237, r_P_run_240, r_P_run_241, r_P_run_244, r_P_run_245, c_P_run_246 (sp_P_a hk), r_P_run_249, r_P_run_250, r_P_run_251, c_P_run_252 (sp_P_b hk), r_P_run_255, r_P_run_258, r_P_run_259, r_P_run_260, r_P_run_262, r_P_run_264, r_P_run_267, r_P_run_268, r_P_run_271, r_P_run_272, c_P_run_273 (sp_P_a hk), r_P_run_276, r_P_run_277, r_P_run_280, r_P_run_281, c_P_run_282 (sp_P_b hk), r_P_run_285, r_P_run_286, r_P_run_287, r_P_run_289, r_P_run_290, r_P_run_293, r_P_run_294, hc, cf_ge8 hk, ↓reduceIte, e, el, er, il, ir, ik, nl, nr, nk, true_and, cf_wa_s, cf_wa_n, pk_us, pk_un, ne_eq, Nat.reduceEqDiff, not_false_eq_true, reduceCtorEq, nI_1, cf_wa_wa, cf_n45_0, cf_n45_1, cf_n45_2, cf_n45_3, cf_n45_4, cf_n45_5, cf_n45_6, cf_n45_7, cf_n45_8, cf_n45_9, cf_n25_0, cf_n25_1, cf_n25_2, cf_n25_3, cf_n25_4, cf_n25_5, cf_n25_6, cf_n25_7, cf_n25_8, cf_n25_9, cf_g9_0, cf_g9_1, cf_g9_2, cf_g9_3, cf_g9_4, cf_g9_5, cf_g9_6, cf_g9_7, cf_g9_8, cf_g9_9, cf_q_0_1, cf_q_0_2, cf_q_0_3, cf_q_0_4, cf_q_0_5, cf_q_0_6, cf_q_0_7, cf_q_0_8, cf_q_0_9, cf_q_1_0, cf_q_1_2, cf_q_1_3, cf_q_1_4, cf_q_1_5, cf_q_1_6, cf_q_1_7, cf_q_1_8, cf_q_1_9, cf_q_2_0, cf_q_2_1, cf_q_2_3, cf_q_2_4, cf_q_2_5, cf_q_2_6, cf_q_2_7, cf_q_2_8, cf_q_2_9, cf_q_3_0, cf_q_3_1, cf_q_3_2, cf_q_3_4, cf_q_3_5, cf_q_3_6, cf_q_3_7, cf_q_3_8, cf_q_3_9, cf_q_4_0, cf_q_4_1, cf_q_4_2, cf_q_4_3, cf_q_4_5, cf_q_4_6, cf_q_4_7, cf_q_4_8, cf_q_4_9, cf_q_5_0, cf_q_5_1, cf_q_5_2, cf_q_5_3, cf_q_5_4, cf_q_5_6, cf_q_5_7, cf_q_5_8, cf_q_5_9, cf_q_6_0, cf_q_6_1, cf_q_6_2, cf_q_6_3, cf_q_6_4, cf_q_6_5, cf_q_6_7, cf_q_6_8, cf_q_6_9, cf_q_7_0, cf_q_7_1, cf_q_7_2, cf_q_7_3, cf_q_7_4, cf_q_7_5, cf_q_7_6, cf_q_7_8, cf_q_7_9, cf_q_8_0, cf_q_8_1, cf_q_8_2, cf_q_8_3, cf_q_8_4, cf_q_8_5, cf_q_8_6, cf_q_8_7, cf_q_8_9, cf_q_9_0, cf_q_9_1, cf_q_9_2, cf_q_9_3, cf_q_9_4, cf_q_9_5, cf_q_9_6, cf_q_9_7, cf_q_9_8, cf_b_e0, not_true_eq_false, not_false_eq_true, reduceCtorEq]
        by_cases h : v l ≤ 0
        · simp only [h, ↓reduceIte]
          exact step _ (j + 1) (by omega) _ _
        · simp only [h, ↓reduceIte]
          exact step _ (j + 1) (by omega) _ _
      · obtain ⟨i, hi, ei⟩ := hq j hk (Or.inl e)
        have m2 : ¬ nI (i + 1) = -1 := by rw [cf_m1 (show i + 1 < 2 ^ 31 by omega)]; exact id
        rw [cf_nx_45 (Or.inl e)]
        simp only [r_P_run_0, r_P_run_1, r_P_run_4, r_P_run_7, r_P_run_8, r_P_run_9, r_P_run_10, r_P_run_11, r_P_run_12, r_P_run_14, r_P_run_17, r_P_run_18, r_P_run_21, r_P_run_22, r_P_run_23, r_P_run_26, r_P_run_27, r_P_run_30, r_P_run_31, r_P_run_32, r_P_run_35, r_P_run_38, r_P_run_39, r_P_run_40, r_P_run_41, r_P_run_43, r_P_run_45, r_P_run_48, r_P_run_49, r_P_run_50, r_P_run_51, r_P_run_52, r_P_run_53, r_P_run_55, r_P_run_58, r_P_run_59, r_P_run_60, r_P_run_61, c_P_run_62 (sp_P_operation hk), r_P_run_65, r_P_run_67, r_P_run_68, r_P_run_69, r_P_run_70, r_P_run_72, r_P_run_74, r_P_run_75, r_P_run_78, r_P_run_79, r_P_run_82, r_P_run_83, c_P_run_84 (sp_P_a hk), r_P_run_87, r_P_run_88, c_P_run_89 (sp_P_b hk), r_P_run_92, r_P_run_93, r_P_run_95, r_P_run_96, r_P_run_99, r_P_run_100, r_P_run_103, r_P_run_104, c_P_run_105 (sp_P_a hk), r_P_run_108, r_P_run_109, r_P_run_112, r_P_run_113, c_P_run_114 (sp_P_a hk), r_P_run_117, r_P_run_118, r_P_run_119, r_P_run_122, r_P_run_123, c_P_run_124 (sp_P_b hk), r_P_run_127, r_P_run_128, r_P_run_129, r_P_run_130, r_P_run_132, r_P_run_133, r_P_run_136, r_P_run_137, r_P_run_140, r_P_run_141, c_P_run_142 (sp_P_a hk), r_P_run_145, r_P_run_146, r_P_run_149, r_P_run_150, r_P_run_153, r_P_run_154, c_P_run_155 (sp_P_a hk), r_P_run_158, r_P_run_159, r_P_run_162, r_P_run_163, c_P_run_164 (sp_P_a hk), r_P_run_167, r_P_run_168, r_P_run_169, r_P_run_170, r_P_run_171, r_P_run_173, r_P_run_174, c_P_run_175 sp_P_in, r_P_run_178, r_P_run_181, r_P_run_182, r_P_run_185, r_P_run_186, c_P_run_187 (sp_P_a hk), r_P_run_190, r_P_run_191, r_P_run_194, r_P_run_195, r_P_run_198, r_P_run_199, r_P_run_200, r_P_run_201, r_P_run_202, r_P_run_204, r_P_run_206, r_P_run_208, r_P_run_211, r_P_run_212, r_P_run_213, r_P_run_216, r_P_run_217, r_P_run_218, r_P_run_221, r_P_run_222, r_P_run_225, r_P_run_226, r_P_run_229, r_P_run_230, r_P_run_231, r_P_run_233, r_P_run_235, r_P_run_237, r_P_run_240, r_P_run_241, r_P_run_244, r_P_run_245, c_P_run_246 (sp_P_a hk), r_P_run_249, r_P_run_250, r_P_run_251, c_P_run_252 (sp_P_b hk), r_P_run_255, r_P_run_258, r_P_run_259, r_P_run_260, r_P_run_262, r_P_run_264, r_P_run_267, r_P_run_268, r_P_run_271, r_P_run_272, c_P_run_273 (sp_P_a hk), r_P_run_276, r_P_run_277, r_P_run_280, r_P_run_281, c_P_run_282 (sp_P_b hk), r_P_run_285, r_P_run_286, r_P_run_287, r_P_run_289, r_P_run_290, r_P_run_293, r_P_run_294, hc, cf_ge8 hk, ↓reduceIte, e, el, er, il, ir, ik, nl, nr, nk, true_and, cf_wa_s, cf_wa_n, pk_us, pk_un, ne_eq, Nat.reduceEqDiff, not_false_eq_true, reduceCtorEq, nI_1, cf_wa_wa, cf_n45_0, cf_n45_1, cf_n45_2, cf_n45_3, cf_n45_4, cf_n45_5, cf_n45_6, cf_n45_7, cf_n45_8, cf_n45_9, cf_n25_0, cf_n25_1, cf_n25_2, cf_n25_3, cf_n25_4, cf_n25_5, cf_n25_6, cf_n25_7, cf_n25_8, cf_n25_9, cf_g9_0, cf_g9_1, cf_g9_2, cf_g9_3, cf_g9_4, cf_g9_5, cf_g9_6, cf_g9_7, cf_g9_8, cf_g9_9, cf_q_0_1, cf_q_0_2, cf_q_0_3, cf_q_0_4, cf_q_0_5, cf_q_0_6, cf_q_0_7, cf_q_0_8, cf_q_0_9, cf_q_1_0, cf_q_1_2, cf_q_1_3, cf_q_1_4, cf_q_1_5, cf_q_1_6, cf_q_1_7, cf_q_1_8, cf_q_1_9, cf_q_2_0, cf_q_2_1, cf_q_2_3, cf_q_2_4, cf_q_2_5, cf_q_2_6, cf_q_2_7, cf_q_2_8, cf_q_2_9, cf_q_3_0, cf_q_3_1, cf_q_3_2, cf_q_3_4, cf_q_3_5, cf_q_3_6, cf_q_3_7, cf_q_3_8, cf_q_3_9, cf_q_4_0, cf_q_4_1, cf_q_4_2, cf_q_4_3, cf_q_4_5, cf_q_4_6, cf_q_4_7, cf_q_4_8, cf_q_4_9, cf_q_5_0, cf_q_5_1, cf_q_5_2, cf_q_5_3, cf_q_5_4, cf_q_5_6, cf_q_5_7, cf_q_5_8, cf_q_5_9, cf_q_6_0, cf_q_6_1, cf_q_6_2, cf_q_6_3, cf_q_6_4, cf_q_6_5, cf_q_6_7, cf_q_6_8, cf_q_6_9, cf_q_7_0, cf_q_7_1, cf_q_7_2, cf_q_7_3, cf_q_7_4, cf_q_7_5, cf_q_7_6, cf_q_7_8, cf_q_7_9, cf_q_8_0, cf_q_8_1, cf_q_8_2, cf_q_8_3, cf_q_8_4, cf_q_8_5, cf_q_8_6, cf_q_8_7, cf_q_8_9, cf_q_9_0, cf_q_9_1, cf_q_9_2, cf_q_9_3, cf_q_9_4, cf_q_9_5, cf_q_9_6, cf_q_9_7, cf_q_9_8, cf_b_e0, not_true_eq_false, not_false_eq_true, reduceCtorEq, ei]
        by_cases h : v l = 0
        · simp only [h, not_true_eq_false, ↓reduceIte, m2]
          exact step _ (i + 1) (by omega) _ _
        · simp only [h, not_false_eq_true, ↓reduceIte, m1]
          exact step _ (j + 1) (by omega) _ _
      · obtain ⟨i, hi, ei⟩ := hq j hk (Or.inr (Or.inl e))
        have m2 : ¬ nI (i + 1) = -1 := by rw [cf_m1 (show i + 1 < 2 ^ 31 by omega)]; exact id
        rw [cf_nx_45 (Or.inr e)]
        simp only [r_P_run_0, r_P_run_1, r_P_run_4, r_P_run_7, r_P_run_8, r_P_run_9, r_P_run_10, r_P_run_11, r_P_run_12, r_P_run_14, r_P_run_17, r_P_run_18, r_P_run_21, r_P_run_22, r_P_run_23, r_P_run_26, r_P_run_27, r_P_run_30, r_P_run_31, r_P_run_32, r_P_run_35, r_P_run_38, r_P_run_39, r_P_run_40, r_P_run_41, r_P_run_43, r_P_run_45, r_P_run_48, r_P_run_49, r_P_run_50, r_P_run_51, r_P_run_52, r_P_run_53, r_P_run_55, r_P_run_58, r_P_run_59, r_P_run_60, r_P_run_61, c_P_run_62 (sp_P_operation hk), r_P_run_65, r_P_run_67, r_P_run_68, r_P_run_69, r_P_run_70, r_P_run_72, r_P_run_74, r_P_run_75, r_P_run_78, r_P_run_79, r_P_run_82, r_P_run_83, c_P_run_84 (sp_P_a hk), r_P_run_87, r_P_run_88, c_P_run_89 (sp_P_b hk), r_P_run_92, r_P_run_93, r_P_run_95, r_P_run_96, r_P_run_99, r_P_run_100, r_P_run_103, r_P_run_104, c_P_run_105 (sp_P_a hk), r_P_run_108, r_P_run_109, r_P_run_112, r_P_run_113, c_P_run_114 (sp_P_a hk), r_P_run_117, r_P_run_118, r_P_run_119, r_P_run_122, r_P_run_123, c_P_run_124 (sp_P_b hk), r_P_run_127, r_P_run_128, r_P_run_129, r_P_run_130, r_P_run_132, r_P_run_133, r_P_run_136, r_P_run_137, r_P_run_140, r_P_run_141, c_P_run_142 (sp_P_a hk), r_P_run_145, r_P_run_146, r_P_run_149, r_P_run_150, r_P_run_153, r_P_run_154, c_P_run_155 (sp_P_a hk), r_P_run_158, r_P_run_159, r_P_run_162, r_P_run_163, c_P_run_164 (sp_P_a hk), r_P_run_167, r_P_run_168, r_P_run_169, r_P_run_170, r_P_run_171, r_P_run_173, r_P_run_174, c_P_run_175 sp_P_in, r_P_run_178, r_P_run_181, r_P_run_182, r_P_run_185, r_P_run_186, c_P_run_187 (sp_P_a hk), r_P_run_190, r_P_run_191, r_P_run_194, r_P_run_195, r_P_run_198, r_P_run_199, r_P_run_200, r_P_run_201, r_P_run_202, r_P_run_204, r_P_run_206, r_P_run_208, r_P_run_211, r_P_run_212, r_P_run_213, r_P_run_216, r_P_run_217, r_P_run_218, r_P_run_221, r_P_run_222, r_P_run_225, r_P_run_226, r_P_run_229, r_P_run_230, r_P_run_231, r_P_run_233, r_P_run_235, r_P_run_237, r_P_run_240, r_P_run_241, r_P_run_244, r_P_run_245, c_P_run_246 (sp_P_a hk), r_P_run_249, r_P_run_250, r_P_run_251, c_P_run_252 (sp_P_b hk), r_P_run_255, r_P_run_258, r_P_run_259, r_P_run_260, r_P_run_262, r_P_run_264, r_P_run_267, r_P_run_268, r_P_run_271, r_P_run_272, c_P_run_273 (sp_P_a hk), r_P_run_276, r_P_run_277, r_P_run_280, r_P_run_281, c_P_run_282 (sp_P_b hk), r_P_run_285, r_P_run_286, r_P_run_287, r_P_run_289, r_P_run_290, r_P_run_293, r_P_run_294, hc, cf_ge8 hk, ↓reduceIte, e, el, er, il, ir, ik, nl, nr, nk, true_and, cf_wa_s, cf_wa_n, pk_us, pk_un, ne_eq, Nat.reduceEqDiff, not_false_eq_true, reduceCtorEq, nI_1, cf_wa_wa, cf_n45_0, cf_n45_1, cf_n45_2, cf_n45_3, cf_n45_4, cf_n45_5, cf_n45_6, cf_n45_7, cf_n45_8, cf_n45_9, cf_n25_0, cf_n25_1, cf_n25_2, cf_n25_3, cf_n25_4, cf_n25_5, cf_n25_6, cf_n25_7, cf_n25_8, cf_n25_9, cf_g9_0, cf_g9_1, cf_g9_2, cf_g9_3, cf_g9_4, cf_g9_5, cf_g9_6, cf_g9_7, cf_g9_8, cf_g9_9, cf_q_0_1, cf_q_0_2, cf_q_0_3, cf_q_0_4, cf_q_0_5, cf_q_0_6, cf_q_0_7, cf_q_0_8, cf_q_0_9, cf_q_1_0, cf_q_1_2, cf_q_1_3, cf_q_1_4, cf_q_1_5, cf_q_1_6, cf_q_1_7, cf_q_1_8, cf_q_1_9, cf_q_2_0, cf_q_2_1, cf_q_2_3, cf_q_2_4, cf_q_2_5, cf_q_2_6, cf_q_2_7, cf_q_2_8, cf_q_2_9, cf_q_3_0, cf_q_3_1, cf_q_3_2, cf_q_3_4, cf_q_3_5, cf_q_3_6, cf_q_3_7, cf_q_3_8, cf_q_3_9, cf_q_4_0, cf_q_4_1, cf_q_4_2, cf_q_4_3, cf_q_4_5, cf_q_4_6, cf_q_4_7, cf_q_4_8, cf_q_4_9, cf_q_5_0, cf_q_5_1, cf_q_5_2, cf_q_5_3, cf_q_5_4, cf_q_5_6, cf_q_5_7, cf_q_5_8, cf_q_5_9, cf_q_6_0, cf_q_6_1, cf_q_6_2, cf_q_6_3, cf_q_6_4, cf_q_6_5, cf_q_6_7, cf_q_6_8, cf_q_6_9, cf_q_7_0, cf_q_7_1, cf_q_7_2, cf_q_7_3, cf_q_7_4, cf_q_7_5, cf_q_7_6, cf_q_7_8, cf_q_7_9, cf_q_8_0, cf_q_8_1, cf_q_8_2, cf_q_8_3, cf_q_8_4, cf_q_8_5, cf_q_8_6, cf_q_8_7, cf_q_8_9, cf_q_9_0, cf_q_9_1, cf_q_9_2, cf_q_9_3, cf_q_9_4, cf_q_9_5, cf_q_9_6, cf_q_9_7, cf_q_9_8, cf_b_e0, not_true_eq_false, not_false_eq_true, reduceCtorEq, ei]
        by_cases h : v l = 0
        · simp only [h, not_true_eq_false, ↓reduceIte, m2]
          exact step _ (i + 1) (by omega) _ _
        · simp only [h, not_false_eq_true, ↓reduceIte, m1]
          exact step _ (j + 1) (by omega) _ _
      · obtain ⟨i, hi, ei⟩ := hq j hk (Or.inr (Or.inr e))
        have ii := cf_in_nI hi (show 8 < 2 ^ 31 by decide)
        have ni := nI_clamp (show i < 2 ^ 31 by omega)
        have m2 : ¬ nI i = -1 := by rw [cf_m1 (show i < 2 ^ 31 by omega)]; exact id
        rw [cf_nx_6 e]
        simp only [r_P_run_0, r_P_run_1, r_P_run_4, r_P_run_7, r_P_run_8, r_P_run_9, r_P_run_10, r_P_run_11, r_P_run_12, r_P_run_14, r_P_run_17, r_P_run_18, r_P_run_21, r_P_run_22, r_P_run_23, r_P_run_26, r_P_run_27, r_P_run_30, r_P_run_31, r_P_run_32, r_P_run_35, r_P_run_38, r_P_run_39, r_P_run_40, r_P_run_41, r_P_run_43, r_P_run_45, r_P_run_48, r_P_run_49, r_P_run_50, r_P_run_51, r_P_run_52, r_P_run_53, r_P_run_55, r_P_run_58, r_P_run_59, r_P_run_60, r_P_run_61, c_P_run_62 (sp_P_operation hk), r_P_run_65, r_P_run_67, r_P_run_68, r_P_run_69, r_P_run_70, r_P_run_72, r_P_run_74, r_P_run_75, r_P_run_78, r_P_run_79, r_P_run_82, r_P_run_83, c_P_run_84 (sp_P_a hk), r_P_run_87, r_P_run_88, c_P_run_89 (sp_P_b hk), r_P_run_92, r_P_run_93, r_P_run_95, r_P_run_96, r_P_run_99, r_P_run_100, r_P_run_103, r_P_run_104, c_P_run_105 (sp_P_a hk), r_P_run_108, r_P_run_109, r_P_run_112, r_P_run_113, c_P_run_114 (sp_P_a hk), r_P_run_117, r_P_run_118, r_P_run_119, r_P_run_122, r_P_run_123, c_P_run_124 (sp_P_b hk), r_P_run_127, r_P_run_128, r_P_run_129, r_P_run_130, r_P_run_132, r_P_run_133, r_P_run_136, r_P_run_137, r_P_run_140, r_P_run_141, c_P_run_142 (sp_P_a hk), r_P_run_145, r_P_run_146, r_P_run_149, r_P_run_150, r_P_run_153, r_P_run_154, c_P_run_155 (sp_P_a hk), r_P_run_158, r_P_run_159, r_P_run_162, r_P_run_163, c_P_run_164 (sp_P_a hk), r_P_run_167, r_P_run_168, r_P_run_169, r_P_run_170, r_P_run_171, r_P_run_173, r_P_run_174, c_P_run_175 sp_P_in, r_P_run_178, r_P_run_181, r_P_run_182, r_P_run_185, r_P_run_186, c_P_run_187 (sp_P_a hk), r_P_run_190, r_P_run_191, r_P_run_194, r_P_run_195, r_P_run_198, r_P_run_199, r_P_run_200, r_P_run_201, r_P_run_202, r_P_run_204, r_P_run_206, r_P_run_208, r_P_run_211, r_P_run_212, r_P_run_213, r_P_run_216, r_P_run_217, c_P_run_218 (sp_P_operation hi), r_P_run_221, r_P_run_222, r_P_run_225, r_P_run_226, r_P_run_229, r_P_run_230, r_P_run_231, r_P_run_233, r_P_run_235, r_P_run_237, r_P_run_240, r_P_run_241, r_P_run_244, r_P_run_245, c_P_run_246 (sp_P_a hk), r_P_run_249, r_P_run_250, r_P_run_251, c_P_run_252 (sp_P_b hk), r_P_run_255, r_P_run_258, r_P_run_259, r_P_run_260, r_P_run_262, r_P_run_264, r_P_run_267, r_P_run_268, r_P_run_271, r_P_run_272, c_P_run_273 (sp_P_a hk), r_P_run_276, r_P_run_277, r_P_run_280, r_P_run_281, c_P_run_282 (sp_P_b hk), r_P_run_285, r_P_run_286, r_P_run_287, r_P_run_289, r_P_run_290, r_P_run_293, r_P_run_294, hc, cf_ge8 hk, ↓reduceIte, e, el, er, il, ir, ik, nl, nr, nk, true_and, cf_wa_s, cf_wa_n, pk_us, pk_un, ne_eq, Nat.reduceEqDiff, not_false_eq_true, reduceCtorEq, nI_1, cf_wa_wa, cf_n45_0, cf_n45_1, cf_n45_2, cf_n45_3, cf_n45_4, cf_n45_5, cf_n45_6, cf_n45_7, cf_n45_8, cf_n45_9, cf_n25_0, cf_n25_1, cf_n25_2, cf_n25_3, cf_n25_4, cf_n25_5, cf_n25_6, cf_n25_7, cf_n25_8, cf_n25_9, cf_g9_0, cf_g9_1, cf_g9_2, cf_g9_3, cf_g9_4, cf_g9_5, cf_g9_6, cf_g9_7, cf_g9_8, cf_g9_9, cf_q_0_1, cf_q_0_2, cf_q_0_3, cf_q_0_4, cf_q_0_5, cf_q_0_6, cf_q_0_7, cf_q_0_8, cf_q_0_9, cf_q_1_0, cf_q_1_2, cf_q_1_3, cf_q_1_4, cf_q_1_5, cf_q_1_6, cf_q_1_7, cf_q_1_8, cf_q_1_9, cf_q_2_0, cf_q_2_1, cf_q_2_3, cf_q_2_4, cf_q_2_5, cf_q_2_6, cf_q_2_7, cf_q_2_8, cf_q_2_9, cf_q_3_0, cf_q_3_1, cf_q_3_2, cf_q_3_4, cf_q_3_5, cf_q_3_6, cf_q_3_7, cf_q_3_8, cf_q_3_9, cf_q_4_0, cf_q_4_1, cf_q_4_2, cf_q_4_3, cf_q_4_5, cf_q_4_6, cf_q_4_7, cf_q_4_8, cf_q_4_9, cf_q_5_0, cf_q_5_1, cf_q_5_2, cf_q_5_3, cf_q_5_4, cf_q_5_6, cf_q_5_7, cf_q_5_8, cf_q_5_9, cf_q_6_0, cf_q_6_1, cf_q_6_2, cf_q_6_3, cf_q_6_4, cf_q_6_5, cf_q_6_7, cf_q_6_8, cf_q_6_9, cf_q_7_0, cf_q_7_1, cf_q_7_2, cf_q_7_3, cf_q_7_4, cf_q_7_5, cf_q_7_6, cf_q_7_8, cf_q_7_9, cf_q_8_0, cf_q_8_1, cf_q_8_2, cf_q_8_3, cf_q_8_4, cf_q_8_5, cf_q_8_6, cf_q_8_7, cf_q_8_9, cf_q_9_0, cf_q_9_1, cf_q_9_2, cf_q_9_3, cf_q_9_4, cf_q_9_5, cf_q_9_6, cf_q_9_7, cf_q_9_8, cf_b_e0, not_true_eq_false, not_false_eq_true, reduceCtorEq, ei, ni]
        by_cases h : cf_op (w 22 i) = 4
        · simp only [h, not_true_eq_false, ↓reduceIte, m2]
          exact step _ i (by omega) _ _
        · simp only [h, not_false_eq_true, ↓reduceIte, m1]
          exact step _ (j + 1) (by omega) _ _
      · rw [cf_nx_7 e]
        simp only [r_P_run_0, r_P_run_1, r_P_run_4, r_P_run_7, r_P_run_8, r_P_run_9, r_P_run_10, r_P_run_11, r_P_run_12, r_P_run_14, r_P_run_17, r_P_run_18, r_P_run_21, r_P_run_22, r_P_run_23, r_P_run_26, r_P_run_27, r_P_run_30, r_P_run_31, r_P_run_32, r_P_run_35, r_P_run_38, r_P_run_39, r_P_run_40, r_P_run_41, r_P_run_43, r_P_run_45, r_P_run_48, r_P_run_49, r_P_run_50, r_P_run_51, r_P_run_52, r_P_run_53, r_P_run_55, r_P_run_58, r_P_run_59, r_P_run_60, r_P_run_61, c_P_run_62 (sp_P_operation hk), r_P_run_65, r_P_run_67, r_P_run_68, r_P_run_69, r_P_run_70, r_P_run_72, r_P_run_74, r_P_run_75, r_P_run_78, r_P_run_79, r_P_run_82, r_P_run_83, c_P_run_84 (sp_P_a hk), r_P_run_87, r_P_run_88, c_P_run_89 (sp_P_b hk), r_P_run_92, r_P_run_93, r_P_run_95, r_P_run_96, r_P_run_99, r_P_run_100, r_P_run_103, r_P_run_104, c_P_run_105 (sp_P_a hk), r_P_run_108, r_P_run_109, r_P_run_112, r_P_run_113, c_P_run_114 (sp_P_a hk), r_P_run_117, r_P_run_118, r_P_run_119, r_P_run_122, r_P_run_123, c_P_run_124 (sp_P_b hk), r_P_run_127, r_P_run_128, r_P_run_129, r_P_run_130, r_P_run_132, r_P_run_133, r_P_run_136, r_P_run_137, r_P_run_140, r_P_run_141, c_P_run_142 (sp_P_a hk), r_P_run_145, r_P_run_146, r_P_run_149, r_P_run_150, r_P_run_153, r_P_run_154, c_P_run_155 (sp_P_a hk), r_P_run_158, r_P_run_159, r_P_run_162, r_P_run_163, c_P_run_164 (sp_P_a hk), r_P_run_167, r_P_run_168, r_P_run_169, r_P_run_170, r_P_run_171, r_P_run_173, r_P_run_174, c_P_run_175 sp_P_in, r_P_run_178, r_P_run_181, r_P_run_182, r_P_run_185, r_P_run_186, c_P_run_187 (sp_P_a hk), r_P_run_190, r_P_run_191, r_P_run_194, r_P_run_195, r_P_run_198, r_P_run_199, r_P_run_200, r_P_run_201, r_P_run_202, r_P_run_204, r_P_run_206, r_P_run_208, r_P_run_211, r_P_run_212, r_P_run_213, r_P_run_216, r_P_run_217, r_P_run_218, r_P_run_221, r_P_run_222, r_P_run_225, r_P_run_226, r_P_run_229, r_P_run_230, r_P_run_231, r_P_run_233, r_P_run_235, r_P_run_237, r_P_run_240, r_P_run_241, r_P_run_244, r_P_run_245, c_P_run_246 (sp_P_a hk), r_P_run_249, r_P_run_250, r_P_run_251, c_P_run_252 (sp_P_b hk), r_P_run_255, r_P_run_258, r_P_run_259, r_P_run_260, r_P_run_262, r_P_run_264, r_P_run_267, r_P_run_268, r_P_run_271, r_P_run_272, c_P_run_273 (sp_P_a hk), r_P_run_276, r_P_run_277, r_P_run_280, r_P_run_281, c_P_run_282 (sp_P_b hk), r_P_run_285, r_P_run_286, r_P_run_287, r_P_run_289, r_P_run_290, r_P_run_293, r_P_run_294, hc, cf_ge8 hk, ↓reduceIte, e, el, er, il, ir, ik, nl, nr, nk, true_and, cf_wa_s, cf_wa_n, pk_us, pk_un, ne_eq, Nat.reduceEqDiff, not_false_eq_true, reduceCtorEq, nI_1, cf_wa_wa, cf_n45_0, cf_n45_1, cf_n45_2, cf_n45_3, cf_n45_4, cf_n45_5, cf_n45_6, cf_n45_7, cf_n45_8, cf_n45_9, cf_n25_0, cf_n25_1, cf_n25_2, cf_n25_3, cf_n25_4, cf_n25_5, cf_n25_6, cf_n25_7, cf_n25_8, cf_n25_9, cf_g9_0, cf_g9_1, cf_g9_2, cf_g9_3, cf_g9_4, cf_g9_5, cf_g9_6, cf_g9_7, cf_g9_8, cf_g9_9, cf_q_0_1, cf_q_0_2, cf_q_0_3, cf_q_0_4, cf_q_0_5, cf_q_0_6, cf_q_0_7, cf_q_0_8, cf_q_0_9, cf_q_1_0, cf_q_1_2, cf_q_1_3, cf_q_1_4, cf_q_1_5, cf_q_1_6, cf_q_1_7, cf_q_1_8, cf_q_1_9, cf_q_2_0, cf_q_2_1, cf_q_2_3, cf_q_2_4, cf_q_2_5, cf_q_2_6, cf_q_2_7, cf_q_2_8, cf_q_2_9, cf_q_3_0, cf_q_3_1, cf_q_3_2, cf_q_3_4, cf_q_3_5, cf_q_3_6, cf_q_3_7, cf_q_3_8, cf_q_3_9, cf_q_4_0, cf_q_4_1, cf_q_4_2, cf_q_4_3, cf_q_4_5, cf_q_4_6, cf_q_4_7, cf_q_4_8, cf_q_4_9, cf_q_5_0, cf_q_5_1, cf_q_5_2, cf_q_5_3, cf_q_5_4, cf_q_5_6, cf_q_5_7, cf_q_5_8, cf_q_5_9, cf_q_6_0, cf_q_6_1, cf_q_6_2, cf_q_6_3, cf_q_6_4, cf_q_6_5, cf_q_6_7, cf_q_6_8, cf_q_6_9, cf_q_7_0, cf_q_7_1, cf_q_7_2, cf_q_7_3, cf_q_7_4, cf_q_7_5, cf_q_7_6, cf_q_7_8, cf_q_7_9, cf_q_8_0, cf_q_8_1, cf_q_8_2, cf_q_8_3, cf_q_8_4, cf_q_8_5, cf_q_8_6, cf_q_8_7, cf_q_8_9, cf_q_9_0, cf_q_9_1, cf_q_9_2, cf_q_9_3, cf_q_9_4, cf_q_9_5, cf_q_9_6, cf_q_9_7, cf_q_9_8, cf_b_e0, not_true_eq_false, not_false_eq_true, reduceCtorEq]
        by_cases h : v l = nI r
        · simp only [h, ↓reduceIte, m1]
          exact step _ (j + 1) (by omega) _ _
        · simp only [h, ↓reduceIte]
          exact ⟨by simp, v, rfl⟩
      · rw [cf_nx_8 e, if_neg m1]
        simp only [r_P_run_0, r_P_run_1, r_P_run_4, r_P_run_7, r_P_run_8, r_P_run_9, r_P_run_10, r_P_run_11, r_P_run_12, r_P_run_14, r_P_run_17, r_P_run_18, r_P_run_21, r_P_run_22, r_P_run_23, r_P_run_26, r_P_run_27, r_P_run_30, r_P_run_31, r_P_run_32, r_P_run_35, r_P_run_38, r_P_run_39, r_P_run_40, r_P_run_41, r_P_run_43, r_P_run_45, r_P_run_48, r_P_run_49, r_P_run_50, r_P_run_51, r_P_run_52, r_P_run_53, r_P_run_55, r_P_run_58, r_P_run_59, r_P_run_60, r_P_run_61, c_P_run_62 (sp_P_operation hk), r_P_run_65, r_P_run_67, r_P_run_68, r_P_run_69, r_P_run_70, r_P_run_72, r_P_run_74, r_P_run_75, r_P_run_78, r_P_run_79, r_P_run_82, r_P_run_83, c_P_run_84 (sp_P_a hk), r_P_run_87, r_P_run_88, c_P_run_89 (sp_P_b hk), r_P_run_92, r_P_run_93, r_P_run_95, r_P_run_96, r_P_run_99, r_P_run_100, r_P_run_103, r_P_run_104, c_P_run_105 (sp_P_a hk), r_P_run_108, r_P_run_109, r_P_run_112, r_P_run_113, c_P_run_114 (sp_P_a hk), r_P_run_117, r_P_run_118, r_P_run_119, r_P_run_122, r_P_run_123, c_P_run_124 (sp_P_b hk), r_P_run_127, r_P_run_128, r_P_run_129, r_P_run_130, r_P_run_132, r_P_run_133, r_P_run_136, r_P_run_137, r_P_run_140, r_P_run_141, c_P_run_142 (sp_P_a hk), r_P_run_145, r_P_run_146, r_P_run_149, r_P_run_150, r_P_run_153, r_P_run_154, c_P_run_155 (sp_P_a hk), r_P_run_158, r_P_run_159, r_P_run_162, r_P_run_163, c_P_run_164 (sp_P_a hk), r_P_run_167, r_P_run_168, r_P_run_169, r_P_run_170, r_P_run_171, r_P_run_173, r_P_run_174, c_P_run_175 sp_P_in, r_P_run_178, r_P_run_181, r_P_run_182, r_P_run_185, r_P_run_186, c_P_run_187 (sp_P_a hk), r_P_run_190, r_P_run_191, r_P_run_194, r_P_run_195, r_P_run_198, r_P_run_199, r_P_run_200, r_P_run_201, r_P_run_202, r_P_run_204, r_P_run_206, r_P_run_208, r_P_run_211, r_P_run_212, r_P_run_213, r_P_run_216, r_P_run_217, r_P_run_218, r_P_run_221, r_P_run_222, r_P_run_225, r_P_run_226, r_P_run_229, r_P_run_230, r_P_run_231, r_P_run_233, r_P_run_235, r_P_run_237, r_P_run_240, r_P_run_241, r_P_run_244, r_P_run_245, c_P_run_246 (sp_P_a hk), r_P_run_249, r_P_run_250, r_P_run_251, c_P_run_252 (sp_P_b hk), r_P_run_255, r_P_run_258, r_P_run_259, r_P_run_260, r_P_run_262, r_P_run_264, r_P_run_267, r_P_run_268, r_P_run_271, r_P_run_272, c_P_run_273 (sp_P_a hk), r_P_run_276, r_P_run_277, r_P_run_280, r_P_run_281, c_P_run_282 (sp_P_b hk), r_P_run_285, r_P_run_286, r_P_run_287, r_P_run_289, r_P_run_290, r_P_run_293, r_P_run_294, hc, cf_ge8 hk, ↓reduceIte, e, el, er, il, ir, ik, nl, nr, nk, true_and, cf_wa_s, cf_wa_n, pk_us, pk_un, ne_eq, Nat.reduceEqDiff, not_false_eq_true, reduceCtorEq, nI_1, cf_wa_wa, cf_n45_0, cf_n45_1, cf_n45_2, cf_n45_3, cf_n45_4, cf_n45_5, cf_n45_6, cf_n45_7, cf_n45_8, cf_n45_9, cf_n25_0, cf_n25_1, cf_n25_2, cf_n25_3, cf_n25_4, cf_n25_5, cf_n25_6, cf_n25_7, cf_n25_8, cf_n25_9, cf_g9_0, cf_g9_1, cf_g9_2, cf_g9_3, cf_g9_4, cf_g9_5, cf_g9_6, cf_g9_7, cf_g9_8, cf_g9_9, cf_q_0_1, cf_q_0_2, cf_q_0_3, cf_q_0_4, cf_q_0_5, cf_q_0_6, cf_q_0_7, cf_q_0_8, cf_q_0_9, cf_q_1_0, cf_q_1_2, cf_q_1_3, cf_q_1_4, cf_q_1_5, cf_q_1_6, cf_q_1_7, cf_q_1_8, cf_q_1_9, cf_q_2_0, cf_q_2_1, cf_q_2_3, cf_q_2_4, cf_q_2_5, cf_q_2_6, cf_q_2_7, cf_q_2_8, cf_q_2_9, cf_q_3_0, cf_q_3_1, cf_q_3_2, cf_q_3_4, cf_q_3_5, cf_q_3_6, cf_q_3_7, cf_q_3_8, cf_q_3_9, cf_q_4_0, cf_q_4_1, cf_q_4_2, cf_q_4_3, cf_q_4_5, cf_q_4_6, cf_q_4_7, cf_q_4_8, cf_q_4_9, cf_q_5_0, cf_q_5_1, cf_q_5_2, cf_q_5_3, cf_q_5_4, cf_q_5_6, cf_q_5_7, cf_q_5_8, cf_q_5_9, cf_q_6_0, cf_q_6_1, cf_q_6_2, cf_q_6_3, cf_q_6_4, cf_q_6_5, cf_q_6_7, cf_q_6_8, cf_q_6_9, cf_q_7_0, cf_q_7_1, cf_q_7_2, cf_q_7_3, cf_q_7_4, cf_q_7_5, cf_q_7_6, cf_q_7_8, cf_q_7_9, cf_q_8_0, cf_q_8_1, cf_q_8_2, cf_q_8_3, cf_q_8_4, cf_q_8_5, cf_q_8_6, cf_q_8_7, cf_q_8_9, cf_q_9_0, cf_q_9_1, cf_q_9_2, cf_q_9_3, cf_q_9_4, cf_q_9_5, cf_q_9_6, cf_q_9_7, cf_q_9_8, cf_b_e0, not_true_eq_false, not_false_eq_true, reduceCtorEq]
        exact step _ (j + 1) (by omega) _ _
      · rw [cf_nx_0 (Or.inr e), if_neg m1]
        simp only [r_P_run_0, r_P_run_1, r_P_run_4, r_P_run_7, r_P_run_8, r_P_run_9, r_P_run_10, r_P_run_11, r_P_run_12, r_P_run_14, r_P_run_17, r_P_run_18, r_P_run_21, r_P_run_22, r_P_run_23, r_P_run_26, r_P_run_27, r_P_run_30, r_P_run_31, r_P_run_32, r_P_run_35, r_P_run_38, r_P_run_39, r_P_run_40, r_P_run_41, r_P_run_43, r_P_run_45, r_P_run_48, r_P_run_49, r_P_run_50, r_P_run_51, r_P_run_52, r_P_run_53, r_P_run_55, r_P_run_58, r_P_run_59, r_P_run_60, r_P_run_61, c_P_run_62 (sp_P_operation hk), r_P_run_65, r_P_run_67, r_P_run_68, r_P_run_69, r_P_run_70, r_P_run_72, r_P_run_74, r_P_run_75, r_P_run_78, r_P_run_79, r_P_run_82, r_P_run_83, c_P_run_84 (sp_P_a hk), r_P_run_87, r_P_run_88, c_P_run_89 (sp_P_b hk), r_P_run_92, r_P_run_93, r_P_run_95, r_P_run_96, r_P_run_99, r_P_run_100, r_P_run_103, r_P_run_104, c_P_run_105 (sp_P_a hk), r_P_run_108, r_P_run_109, r_P_run_112, r_P_run_113, c_P_run_114 (sp_P_a hk), r_P_run_117, r_P_run_118, r_P_run_119, r_P_run_122, r_P_run_123, c_P_run_124 (sp_P_b hk), r_P_run_127, r_P_run_128, r_P_run_129, r_P_run_130, r_P_run_132, r_P_run_133, r_P_run_136, r_P_run_137, r_P_run_140, r_P_run_141, c_P_run_142 (sp_P_a hk), r_P_run_145, r_P_run_146, r_P_run_149, r_P_run_150, r_P_run_153, r_P_run_154, c_P_run_155 (sp_P_a hk), r_P_run_158, r_P_run_159, r_P_run_162, r_P_run_163, c_P_run_164 (sp_P_a hk), r_P_run_167, r_P_run_168, r_P_run_169, r_P_run_170, r_P_run_171, r_P_run_173, r_P_run_174, c_P_run_175 sp_P_in, r_P_run_178, r_P_run_181, r_P_run_182, r_P_run_185, r_P_run_186, c_P_run_187 (sp_P_a hk), r_P_run_190, r_P_run_191, r_P_run_194, r_P_run_195, r_P_run_198, r_P_run_199, r_P_run_200, r_P_run_201, r_P_run_202, r_P_run_204, r_P_run_206, r_P_run_208, r_P_run_211, r_P_run_212, r_P_run_213, r_P_run_216, r_P_run_217, r_P_run_218, r_P_run_221, r_P_run_222, r_P_run_225, r_P_run_226, r_P_run_229, r_P_run_230, r_P_run_231, r_P_run_233, r_P_run_235, r_P_run_237, r_P_run_240, r_P_run_241, r_P_run_244, r_P_run_245, c_P_run_246 (sp_P_a hk), r_P_run_249, r_P_run_250, r_P_run_251, c_P_run_252 (sp_P_b hk), r_P_run_255, r_P_run_258, r_P_run_259, r_P_run_260, r_P_run_262, r_P_run_264, r_P_run_267, r_P_run_268, r_P_run_271, r_P_run_272, c_P_run_273 (sp_P_a hk), r_P_run_276, r_P_run_277, r_P_run_280, r_P_run_281, c_P_run_282 (sp_P_b hk), r_P_run_285, r_P_run_286, r_P_run_287, r_P_run_289, r_P_run_290, r_P_run_293, r_P_run_294, hc, cf_ge8 hk, ↓reduceIte, e, el, er, il, ir, ik, nl, nr, nk, true_and, cf_wa_s, cf_wa_n, pk_us, pk_un, ne_eq, Nat.reduceEqDiff, not_false_eq_true, reduceCtorEq, nI_1, cf_wa_wa, cf_n45_0, cf_n45_1, cf_n45_2, cf_n45_3, cf_n45_4, cf_n45_5, cf_n45_6, cf_n45_7, cf_n45_8, cf_n45_9, cf_n25_0, cf_n25_1, cf_n25_2, cf_n25_3, cf_n25_4, cf_n25_5, cf_n25_6, cf_n25_7, cf_n25_8, cf_n25_9, cf_g9_0, cf_g9_1, cf_g9_2, cf_g9_3, cf_g9_4, cf_g9_5, cf_g9_6, cf_g9_7, cf_g9_8, cf_g9_9, cf_q_0_1, cf_q_0_2, cf_q_0_3, cf_q_0_4, cf_q_0_5, cf_q_0_6, cf_q_0_7, cf_q_0_8, cf_q_0_9, cf_q_1_0, cf_q_1_2, cf_q_1_3, cf_q_1_4, cf_q_1_5, cf_q_1_6, cf_q_1_7, cf_q_1_8, cf_q_1_9, cf_q_2_0, cf_q_2_1, cf_q_2_3, cf_q_2_4, cf_q_2_5, cf_q_2_6, cf_q_2_7, cf_q_2_8, cf_q_2_9, cf_q_3_0, cf_q_3_1, cf_q_3_2, cf_q_3_4, cf_q_3_5, cf_q_3_6, cf_q_3_7, cf_q_3_8, cf_q_3_9, cf_q_4_0, cf_q_4_1, cf_q_4_2, cf_q_4_3, cf_q_4_5, cf_q_4_6, cf_q_4_7, cf_q_4_8, cf_q_4_9, cf_q_5_0, cf_q_5_1, cf_q_5_2, cf_q_5_3, cf_q_5_4, cf_q_5_6, cf_q_5_7, cf_q_5_8, cf_q_5_9, cf_q_6_0, cf_q_6_1, cf_q_6_2, cf_q_6_3, cf_q_6_4, cf_q_6_5, cf_q_6_7, cf_q_6_8, cf_q_6_9, cf_q_7_0, cf_q_7_1, cf_q_7_2, cf_q_7_3, cf_q_7_4, cf_q_7_5, cf_q_7_6, cf_q_7_8, cf_q_7_9, cf_q_8_0, cf_q_8_1, cf_q_8_2, cf_q_8_3, cf_q_8_4, cf_q_8_5, cf_q_8_6, cf_q_8_7, cf_q_8_9, cf_q_9_0, cf_q_9_1, cf_q_9_2, cf_q_9_3, cf_q_9_4, cf_q_9_5, cf_q_9_6, cf_q_9_7, cf_q_9_8, cf_b_e0, not_true_eq_false, not_false_eq_true, reduceCtorEq]
        exact step _ (j + 1) (by omega) _ _
def cf_iv (f : Nat → Int32) (x : Int32) (k : Nat) : Nat → Int32 := fun j => if j < k then (if j = 0 then x else 0) else f j
theorem cf_iv_u {f : Nat → Int32} {x : Int32} {k : Nat} : upd (cf_iv f x k) k (if k = 0 then x else 0) = cf_iv f x (k + 1) := by
  funext j
  unfold upd cf_iv
  by_cases h : j = k
  · subst h
    simp
  · have e : (j < k + 1) ↔ j < k := by omega
    simp [h, e]
theorem lp_P_runi {w : cf_Wd} {x : Int32} {Q : cf_Rs → Prop} {l3 l4 l5 : Option cf_AV} (hQ : cf_wp T_P_run (42, [some (.inr 15), some (.inl x), some (.inl 0), some (.inl 0), l4, l5], [], cf_wa w 25 (cf_iv (w 25) x 10)) Q) : ∀ d k, k + d = 10 → cf_wp T_P_run (11, [some (.inr 15), some (.inl x), some (.inl (nI k)), l3, l4, l5], [], cf_wa w 25 (cf_iv (w 25) x k)) Q := by
  have e10 : (10 : Int32) = nI 10 := by decide +kernel
  intro d
  induction d with
  | zero =>
    intro k hk
    have e : k = 10 := by omega
    subst e
    have hc : ((10 : Int32) ≤ nI 10) = True := eq_true (by decide +kernel)
    simp only [r_P_run_11, r_P_run_12, r_P_run_14, hc, ↓reduceIte, r_P_run_38, r_P_run_39, r_P_run_40, r_P_run_41]
    exact hQ
  | succ d ih =>
    intro k hk
    have hc : ((10 : Int32) ≤ nI k) = False := by
      rw [e10]
      exact eq_false (nI_ge (by omega) (by decide))
    have ih1 := ih (k + 1) (by omega)
    rw [← cf_iv_u] at ih1
    refine r_P_run_11.mpr ?_
    simp only [r_P_run_12, r_P_run_14, hc, ↓reduceIte, r_P_run_17, r_P_run_18, r_P_run_21, r_P_run_22, r_P_run_23, r_P_run_26, r_P_run_27, r_P_run_30, r_P_run_31, r_P_run_32, r_P_run_35, cf_in_nI (show k < 10 by omega) (by decide), nI_clamp (show k < 2 ^ 31 by omega), true_and, cf_ne0 (show k < 2 ^ 31 by omega), cf_wa_s, cf_wa_n, pk_us, pk_un, ne_eq, Nat.reduceEqDiff, not_false_eq_true, reduceCtorEq, cf_wa_wa, nI_1]
    by_cases h : k = 0
    · simp only [h, ↓reduceIte, not_true_eq_false] at ih1 ⊢
      exact ih1
    · simp only [h, ↓reduceIte, not_false_eq_true] at ih1 ⊢
      exact ih1
theorem sp_P_run {w : cf_Wd} {x : Int32} (hcd : ∀ j, j < 8 → cf_cd (w 22 j)) (hb : cf_bdd (w 24)) : ∃ r w1, F_P_run [.inr 15, .inl x] w = some (some (.inl r), w1) ∧ (cf_vd (w 22) x r ∧ cf_bdd (w1 24) ∧ ∀ k, k ≠ 23 → k ≠ 24 → k ≠ 25 → w1 k = w k) := by
  refine e_P_run ?_
  obtain ⟨x1, w1, h1, a, st, e1, hst, hr⟩ := sp_P_isBuildable hcd hb
  simp only [r_P_run_0, c_P_run_1 h1, r_P_run_4, r_P_run_7, r_P_run_8, r_P_run_9, r_P_run_10]
  have h22 : w1 22 = w 22 := by simp only [e1, cf_wa_s, cf_wa_n, pk_us, pk_un, ne_eq, Nat.reduceEqDiff, not_false_eq_true, reduceCtorEq]
  have h23 : w1 23 = a := by simp only [e1, cf_wa_s, cf_wa_n, pk_us, pk_un, ne_eq, Nat.reduceEqDiff, not_false_eq_true, reduceCtorEq]
  have h24 : w1 24 = st := by simp only [e1, cf_wa_s, cf_wa_n, pk_us, pk_un, ne_eq, Nat.reduceEqDiff, not_false_eq_true, reduceCtorEq]
  have hfr : ∀ k, k ≠ 23 → k ≠ 24 → k ≠ 25 → w1 k = w k := fun k k7 k8 _ => by
    rw [e1, cf_wa_n _ _ k7, cf_wa_n _ _ k8]
  rcases hr with ⟨rfl, hok, q, hq, hI⟩ | ⟨rfl, hn⟩
  · simp only [cf_q_0_1, cf_q_0_2, cf_q_0_3, cf_q_0_4, cf_q_0_5, cf_q_0_6, cf_q_0_7, cf_q_0_8, cf_q_0_9, cf_q_1_0, cf_q_1_2, cf_q_1_3, cf_q_1_4, cf_q_1_5, cf_q_1_6, cf_q_1_7, cf_q_1_8, cf_q_1_9, cf_q_2_0, cf_q_2_1, cf_q_2_3, cf_q_2_4, cf_q_2_5, cf_q_2_6, cf_q_2_7, cf_q_2_8, cf_q_2_9, cf_q_3_0, cf_q_3_1, cf_q_3_2, cf_q_3_4, cf_q_3_5, cf_q_3_6, cf_q_3_7, cf_q_3_8, cf_q_3_9, cf_q_4_0, cf_q_4_1, cf_q_4_2, cf_q_4_3, cf_q_4_5, cf_q_4_6, cf_q_4_7, cf_q_4_8, cf_q_4_9, cf_q_5_0, cf_q_5_1, cf_q_5_2, cf_q_5_3, cf_q_5_4, cf_q_5_6, cf_q_5_7, cf_q_5_8, cf_q_5_9, cf_q_6_0, cf_q_6_1, cf_q_6_2, cf_q_6_3, cf_q_6_4, cf_q_6_5, cf_q_6_7, cf_q_6_8, cf_q_6_9, cf_q_7_0, cf_q_7_1, cf_q_7_2, cf_q_7_3, cf_q_7_4, cf_q_7_5, cf_q_7_6, cf_q_7_8, cf_q_7_9, cf_q_8_0, cf_q_8_1, cf_q_8_2, cf_q_8_3, cf_q_8_4, cf_q_8_5, cf_q_8_6, cf_q_8_7, cf_q_8_9, cf_q_9_0, cf_q_9_1, cf_q_9_2, cf_q_9_3, cf_q_9_4, cf_q_9_5, cf_q_9_6, cf_q_9_7, cf_q_9_8, not_false_eq_true, ↓reduceIte]
    have hq7 : ∀ j, j < 8 → cf_pk (w 22 j) → a j = q j ∧ ∃ i, i < 8 ∧ q j = nI i := fun j hj hpk => hI.2.2.2 j hj hpk (by simp)
    have hrun := lp_P_run (w := w1) (x := x) (by rw [h22]; exact hcd) (by
      rw [h22, h23]
      intro j hj hpk
      obtain ⟨e, i, hi, ei⟩ := hq7 j hj hpk
      exact ⟨i, hi, e.trans ei⟩) 80 0 (cf_iv (w1 25) x 10) 0 (by omega) (by omega) none none
    rw [nI_0] at hrun
    have hall := lp_P_runi (w := w1) (x := x) (l3 := none) hrun 10 0 (by omega)
    have hiv : cf_iv (w1 25) x 0 = w1 25 := by
      funext j
      simp [cf_iv]
    rw [hiv, cf_wa_id (w := w1) (k := 25) rfl, nI_0] at hall
    obtain ⟨rs, r1, r2⟩ := hall
    refine ⟨rs, r1, ?_⟩
    obtain ⟨v, w2⟩ := rs
    cases v with
    | none => exact r2.elim
    | some v => cases v with
      | inr z => exact r2.elim
      | inl r =>
        obtain ⟨er, v', ew⟩ := r2
        refine ⟨Or.inl ⟨(cf_bld_iff hcd).mpr ⟨hok, q, hq⟩, q, hq, ?_⟩, ?_, fun k k7 k8 k9 => ?_⟩
        · rw [er, h22, h23]
          have hz : (0 : Int32) = nI 0 := by decide +kernel
          have := cf_rn_congr hcd hq7 80 (cf_iv (w1 25) x 10) (upd (fun _ => 0) 0 x) 0 (by omega) (fun i hi => by
            unfold upd cf_iv
            simp [hi])
          rw [← hz] at this
          exact this
        · rw [ew]
          simp only [cf_wa_s, cf_wa_n, pk_us, pk_un, ne_eq, Nat.reduceEqDiff, not_false_eq_true, reduceCtorEq, h24]
          exact hst
        · rw [ew, cf_wa_n _ _ k9]
          exact hfr k k7 k8 k9
  · simp only [not_true_eq_false, ↓reduceIte]
    exact ⟨Or.inr ⟨fun h => hn ((cf_bld_iff hcd).mp h), by simp⟩, by rw [h24]; exact hst, hfr⟩
/-! the reference: programs are loaded, verdict -/
def cf_pl (w : cf_Wd) (n k : Nat) : Nat → Int32 := fun j => if j < k then w 18 (8 * n + j) else w 22 j
theorem cf_pl_u {w : cf_Wd} {n k : Nat} : upd (cf_pl w n k) k (w 18 (8 * n + k)) = cf_pl w n (k + 1) := by
  funext j
  unfold upd cf_pl
  by_cases h : j = k
  · subst h
    simp
  · have e : (j < k + 1) ↔ j < k := by omega
    simp [h, e]
theorem lp_P_load {n : Nat} (hn : n < 14) {w : cf_Wd} : ∀ d k, k + d = 8 → cf_wp T_P_load (2, [some (.inr 15), some (.inl (nI n)), some (.inl (nI k))], [], cf_wa w 22 (cf_pl w n k)) (cf_qv (fun w1 => w1 = cf_wa w 22 (cf_pl w n 8))) := by
  intro d
  induction d with
  | zero =>
    intro k hk
    have e : k = 8 := by omega
    subst e
    refine r_P_load_2.mpr ?_
    simp only [r_P_load_0, r_P_load_1, r_P_load_3, r_P_load_5, r_P_load_8, r_P_load_9, r_P_load_12, r_P_load_13, r_P_load_14, r_P_load_17, r_P_load_19, r_P_load_20, r_P_load_21, r_P_load_22, r_P_load_23, r_P_load_24, r_P_load_25, r_P_load_28, r_P_load_31, cf_ge88, ↓reduceIte]
  | succ d ih =>
    intro k hk
    have h8 : k < 8 := by omega
    have ih1 := ih (k + 1) (by omega)
    refine r_P_load_2.mpr ?_
    simp only [r_P_load_0, r_P_load_1, r_P_load_3, r_P_load_5, r_P_load_8, r_P_load_9, r_P_load_12, r_P_load_13, r_P_load_14, r_P_load_17, r_P_load_19, r_P_load_20, r_P_load_21, r_P_load_22, r_P_load_23, r_P_load_24, r_P_load_25, r_P_load_28, r_P_load_31, cf_ge8 h8, ↓reduceIte, nI_1, cf_in_nI h8 (by decide), true_and, nI_clamp (show k < 2 ^ 31 by omega), cf_8c, cf_in_nI (show 8 * n + k < 112 by omega) (by decide), nI_clamp (show 8 * n + k < 2 ^ 31 by omega), cf_wa_s, cf_wa_n, pk_us, pk_un, ne_eq, Nat.reduceEqDiff, not_false_eq_true, reduceCtorEq, cf_wa_wa, cf_pl_u]
    exact ih1
theorem sp_P_load {n : Nat} (hn : n < 14) {w : cf_Wd} : F_P_load [.inr 15, .inl (nI n)] w = some (none, cf_wa w 22 (cf_pl w n 8)) := by
  refine cf_isv (e_P_load ?_)
  simp only [r_P_load_0, r_P_load_1]
  have h := lp_P_load hn (w := w) 8 0 (by omega)
  have e : cf_pl w n 0 = w 22 := by
    funext j
    simp [cf_pl]
  rw [e, cf_wa_id rfl, nI_0] at h
  exact h
