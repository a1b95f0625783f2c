/-! bits -/
theorem bt_1 : ∀ i, i < 32 → bt 1 i = decide (i = 0) := by decide +kernel
theorem bt_sh {l i : Nat} (hl : l < 32) (hi : i < 32) : bt (1 <<< (nI l &&& 31)) i = decide (i = l) := by
  rw [b_shl l hl 1 hi]
  by_cases h : l ≤ i
  · rw [bt_1 (i - l) (by omega)]
    by_cases e : i = l
    · simp [e]
    · have e2 : ¬ i - l = 0 := by omega
      simp [e, e2]
  · have e : ¬ i = l := by omega
    simp [h, e]
theorem bt_a1 (x : Int32) : (x &&& 1 = 0) ↔ bt x 0 = false := by
  constructor
  · intro h
    have h1 := congrArg (fun y => bt y 0) h
    simp only [b_and, bt_1 0 (by decide), b_0] at h1
    simpa using h1
  · intro h
    apply b_ext
    intro i hi
    rw [b_and, bt_1 i hi, b_0]
    by_cases e : i = 0
    · subst e; simp [h]
    · simp [e]
theorem bt_a2 (x : Int32) : (x &&& 1 = 1) ↔ bt x 0 = true := by
  constructor
  · intro h
    have h1 := congrArg (fun y => bt y 0) h
    simp only [b_and, bt_1 0 (by decide)] at h1
    simpa using h1
  · intro h
    apply b_ext
    intro i hi
    rw [b_and, bt_1 i hi]
    by_cases e : i = 0
    · subst e; simp [h]
    · simp [e]
theorem bt_s0 {m : Int32} {l : Nat} (hl : l < 32) : bt (m >>> (nI l &&& 31)) 0 = bt m l := by
  rw [b_sshr l hl m (by decide), if_pos (by omega), Nat.add_zero]
theorem bt_e0 {m : Int32} {l : Nat} (hl : l < 32) : (m >>> (nI l &&& 31) &&& 1 = 0) ↔ bt m l = false := by rw [bt_a1, bt_s0 hl]
theorem bt_e1 {m : Int32} {l : Nat} (hl : l < 32) : (m >>> (nI l &&& 31) &&& 1 = 1) ↔ bt m l = true := by rw [bt_a2, bt_s0 hl]
theorem cf_bit_bt {m : Int32} {l : Nat} (hl : l < 32) : cf_bit m (nI l) = bt m l := by
  cases h : bt m l
  · exact cf_bit_f ((bt_e0 hl).mpr h)
  · refine cf_bit_t (fun e => ?_)
    rw [(bt_e0 hl).mp e] at h
    cases h
/-! the reference: small ones -/
def cf_inn (v lo hi : Int32) : Bool := !decide (v < lo) && !decide (hi < v)
theorem sp_P_in {v lo hi : Int32} {w : cf_Wd} : F_P_in [.inl v, .inl lo, .inl hi] w = some (some (.inl (cf_b (cf_inn v lo hi))), w) := by
  refine cf_is (e_P_in ?_)
  simp only [r_P_in_0, r_P_in_1, r_P_in_2, r_P_in_5, r_P_in_6, r_P_in_7, r_P_in_10, r_P_in_11, r_P_in_14, r_P_in_15]
  by_cases h1 : v < lo <;> by_cases h2 : hi < v <;> simp [h1, h2, cf_inn, cf_b]
theorem sp_P_isCommit {c : Int32} {w : cf_Wd} : F_P_isCommit [.inr 15, .inl c] w = some (some (.inl (cf_b (cf_inn c 0 (w 15 0 - 1)))), w) := by
  refine cf_is (e_P_isCommit ?_)
  simp only [r_P_isCommit_0, r_P_isCommit_1, r_P_isCommit_2, r_P_isCommit_3, r_P_isCommit_6, r_P_isCommit_7, c_P_isCommit_8 sp_P_in, r_P_isCommit_11]
  exact ⟨cf_b01 _, by simp⟩
theorem sp_P_operation {k : Nat} (hk : k < 8) {w : cf_Wd} : F_P_operation [.inr 15, .inl (nI k)] w = some (some (.inl (cf_op (w 22 k))), w) := by
  refine cf_is (e_P_operation ?_)
  simp only [r_P_operation_0, r_P_operation_1, r_P_operation_4, r_P_operation_5, r_P_operation_6, r_P_operation_8, r_P_operation_9, cf_n100, true_and, cf_in_nI hk (by decide), nI_clamp (show k < 2 ^ 31 by omega)]
  exact ⟨rfl, trivial⟩
theorem sp_P_a {k : Nat} (hk : k < 8) {w : cf_Wd} : F_P_a [.inr 15, .inl (nI k)] w = some (some (.inl (cf_lf (w 22 k))), w) := by
  refine cf_is (e_P_a ?_)
  simp only [r_P_a_0, r_P_a_1, r_P_a_4, r_P_a_5, r_P_a_6, r_P_a_8, r_P_a_9, r_P_a_11, r_P_a_12, cf_n10, true_and, cf_in_nI hk (by decide), nI_clamp (show k < 2 ^ 31 by omega)]
  exact ⟨rfl, trivial⟩
theorem sp_P_b {k : Nat} (hk : k < 8) {w : cf_Wd} : F_P_b [.inr 15, .inl (nI k)] w = some (some (.inl (cf_rt (w 22 k))), w) := by
  refine cf_is (e_P_b ?_)
  simp only [r_P_b_0, r_P_b_1, r_P_b_4, r_P_b_5, r_P_b_6, r_P_b_8, r_P_b_9, cf_n10, true_and, cf_in_nI hk (by decide), nI_clamp (show k < 2 ^ 31 by omega)]
  exact ⟨rfl, trivial⟩
theorem cf_n45_0 : cf_inn 0 4 5 = false := by decide +kernel
theorem cf_n45_1 : cf_inn 1 4 5 = false := by decide +kernel
theorem cf_n45_2 : cf_inn 2 4 5 = false := by decide +kernel
theorem cf_n45_3 : cf_inn 3 4 5 = false := by decide +kernel
theorem cf_n45_4 : cf_inn 4 4 5 = true := by decide +kernel
theorem cf_n45_5 : cf_inn 5 4 5 = true := by decide +kernel
theorem cf_n45_6 : cf_inn 6 4 5 = false := by decide +kernel
theorem cf_n45_7 : cf_inn 7 4 5 = false := by decide +kernel
theorem cf_n45_8 : cf_inn 8 4 5 = false := by decide +kernel
theorem cf_n45_9 : cf_inn 9 4 5 = false := by decide +kernel
theorem cf_n25_0 : cf_inn 0 2 5 = false := by decide +kernel
theorem cf_n25_1 : cf_inn 1 2 5 = false := by decide +kernel
theorem cf_n25_2 : cf_inn 2 2 5 = true := by decide +kernel
theorem cf_n25_3 : cf_inn 3 2 5 = true := by decide +kernel
theorem cf_n25_4 : cf_inn 4 2 5 = true := by decide +kernel
theorem cf_n25_5 : cf_inn 5 2 5 = true := by decide +kernel
theorem cf_n25_6 : cf_inn 6 2 5 = false := by decide +kernel
theorem cf_n25_7 : cf_inn 7 2 5 = false := by decide +kernel
theorem cf_n25_8 : cf_inn 8 2 5 = false := by decide +kernel
theorem cf_n25_9 : cf_inn 9 2 5 = false := by decide +kernel
theorem cf_g9_0 : ((9 : Int32) ≤ 0) = False := eq_false (by decide)
theorem cf_g9_1 : ((9 : Int32) ≤ 1) = False := eq_false (by decide)
theorem cf_g9_2 : ((9 : Int32) ≤ 2) = False := eq_false (by decide)
theorem cf_g9_3 : ((9 : Int32) ≤ 3) = False := eq_false (by decide)
theorem cf_g9_4 : ((9 : Int32) ≤ 4) = False := eq_false (by decide)
theorem cf_g9_5 : ((9 : Int32) ≤ 5) = False := eq_false (by decide)
theorem cf_g9_6 : ((9 : Int32) ≤ 6) = False := eq_false (by decide)
theorem cf_g9_7 : ((9 : Int32) ≤ 7) = False := eq_false (by decide)
theorem cf_g9_8 : ((9 : Int32) ≤ 8) = False := eq_false (by decide)
theorem cf_g9_9 : ((9 : Int32) ≤ 9) = True := eq_true (by decide)
/-! the reference: pairs -/
theorem cf_wa_sw {w : cf_Wd} {j k : Nat} {f g f' : Nat → Int32} (h : j ≠ k) : cf_wa (cf_wa (cf_wa w j f) k g) j f' = cf_wa (cf_wa w j f') k g := by
  funext i
  unfold cf_wa
  by_cases e : i = j
  · subst e
    simp [h]
  · simp [e]
def cf_bdd (st : Nat → Int32) : Prop := ∀ j, j < 8 → ∃ i, i < 8 ∧ st j = nI i
theorem cf_bdd_u {st : Nat → Int32} {k n : Nat} (h : cf_bdd st) (hk : k < 8) : cf_bdd (upd st n (nI k)) := by
  intro j hj
  by_cases e : j = n
  · subst e
    exact ⟨k, hk, pk_us⟩
  · rw [pk_un e]
    exact h j hj
theorem cf_pI_u {p : Nat → Int32} {k : Nat} {s : List Nat} {q a st : Nat → Int32} {x : Int32} (h : cf_pI p k s q a st) : cf_pI p k s q (upd a k x) st := by
  refine ⟨h.1, h.2.1, h.2.2.1, fun j hj hp hs => ?_⟩
  rw [pk_un (by omega)]
  exact h.2.2.2 j hj hp hs
theorem cf_pos {n : Nat} (h : n < 2 ^ 31) : (nI n ≤ 0) ↔ n = 0 := by
  have e : (0 : Int32) = nI 0 := by decide +kernel
  rw [e, nI_leI h (by decide)]
  omega
/-- where it has failed already: it stays in its bounds -/
theorem lp_P_pairs0 {w : cf_Wd} (hcd : ∀ j, j < 8 → cf_cd (w 22 j)) : ∀ d k n a st, k + d = 8 → n ≤ k → cf_bdd st → cf_wp T_P_pairs (6, [some (.inr 15), some (.inl (nI n)), some (.inl 0), some (.inl (nI k))], [], cf_wa (cf_wa w 24 st) 23 a) (cf_qb (fun x w1 => (∃ a' st', w1 = cf_wa (cf_wa w 24 st') 23 a' ∧ cf_bdd st' ∧ x = 0))) := by
  intro d
  induction d with
  | zero =>
    intro k n a st hk hn hb
    have e : k = 8 := by omega
    subst e
    refine r_P_pairs_6.mpr ?_
    simp only [r_P_pairs_0, r_P_pairs_1, r_P_pairs_2, r_P_pairs_3, r_P_pairs_4, r_P_pairs_5, r_P_pairs_7, r_P_pairs_9, r_P_pairs_12, r_P_pairs_13, r_P_pairs_16, r_P_pairs_17, r_P_pairs_18, r_P_pairs_19, r_P_pairs_20, r_P_pairs_21, r_P_pairs_24, r_P_pairs_25, c_P_pairs_26 sp_P_in, r_P_pairs_29, r_P_pairs_32, r_P_pairs_33, r_P_pairs_36, r_P_pairs_37, r_P_pairs_38, r_P_pairs_39, r_P_pairs_40, r_P_pairs_41, r_P_pairs_42, r_P_pairs_43, r_P_pairs_44, r_P_pairs_45, r_P_pairs_48, r_P_pairs_50, r_P_pairs_53, r_P_pairs_54, r_P_pairs_57, r_P_pairs_58, r_P_pairs_61, r_P_pairs_62, r_P_pairs_65, r_P_pairs_66, r_P_pairs_67, r_P_pairs_68, r_P_pairs_71, r_P_pairs_72, r_P_pairs_73, r_P_pairs_74, r_P_pairs_77, r_P_pairs_78, r_P_pairs_79, r_P_pairs_80, r_P_pairs_83, r_P_pairs_84, r_P_pairs_85, r_P_pairs_88, r_P_pairs_89, r_P_pairs_90, r_P_pairs_91, r_P_pairs_92, r_P_pairs_95, r_P_pairs_96, r_P_pairs_99, r_P_pairs_100, r_P_pairs_101, r_P_pairs_102, r_P_pairs_103, r_P_pairs_106, r_P_pairs_109, r_P_pairs_110, r_P_pairs_113, r_P_pairs_114, r_P_pairs_117, r_P_pairs_118, r_P_pairs_121, r_P_pairs_122, cf_ge88, ↓reduceIte]
    exact ⟨by simp, a, st, rfl, hb, by simp⟩
  | succ d ih =>
    intro k n a st hk hn hb
    have h8 : k < 8 := by omega
    have hl : n < 2 ^ 31 := by omega
    have hl8 : n < 8 := by omega
    have key := fun n a st => ih (k + 1) n a st (by omega)
    refine r_P_pairs_6.mpr ?_
    rcases cf_op10 (hcd k h8) with e | e | e | e | e | e | e | e | e | e
    all_goals
      simp only [r_P_pairs_0, r_P_pairs_1, r_P_pairs_2, r_P_pairs_3, r_P_pairs_4, r_P_pairs_5, r_P_pairs_7, r_P_pairs_9, r_P_pairs_12, r_P_pairs_13, r_P_pairs_16, r_P_pairs_17, r_P_pairs_18, r_P_pairs_19, r_P_pairs_20, c_P_pairs_21 (sp_P_operation h8), r_P_pairs_24, r_P_pairs_25, c_P_pairs_26 sp_P_in, r_P_pairs_29, r_P_pairs_32, r_P_pairs_33, r_P_pairs_36, r_P_pairs_37, r_P_pairs_38, r_P_pairs_39, r_P_pairs_40, r_P_pairs_41, r_P_pairs_42, r_P_pairs_43, r_P_pairs_44, c_P_pairs_45 (sp_P_operation h8), r_P_pairs_48, r_P_pairs_50, r_P_pairs_53, r_P_pairs_54, r_P_pairs_57, r_P_pairs_58, r_P_pairs_61, r_P_pairs_62, r_P_pairs_65, r_P_pairs_66, r_P_pairs_67, r_P_pairs_68, r_P_pairs_71, r_P_pairs_72, r_P_pairs_73, r_P_pairs_74, r_P_pairs_77, r_P_pairs_78, r_P_pairs_79, r_P_pairs_80, r_P_pairs_83, r_P_pairs_84, r_P_pairs_85, r_P_pairs_88, r_P_pairs_89, r_P_pairs_90, r_P_pairs_91, r_P_pairs_92, r_P_pairs_95, r_P_pairs_96, r_P_pairs_99, r_P_pairs_100, r_P_pairs_101, r_P_pairs_102, r_P_pairs_103, r_P_pairs_106, r_P_pairs_109, r_P_pairs_110, r_P_pairs_113, r_P_pairs_114, r_P_pairs_117, r_P_pairs_118, r_P_pairs_121, r_P_pairs_122, cf_ge8 h8, ↓reduceIte, nI_1, cf_in_nI h8 (by decide), true_and, nI_clamp (show k < 2 ^ 31 by omega), cf_in_nI hl8 (by decide), nI_clamp hl, cf_wa_s, cf_wa_n, pk_us, pk_un, ne_eq, Nat.reduceEqDiff, not_false_eq_true, reduceCtorEq, e, cf_n45_0, cf_n45_1, cf_n45_2, cf_n45_3, cf_n45_4, cf_n45_5, cf_n45_6, cf_n45_7, cf_n45_8, cf_n45_9, cf_n25_0, cf_n25_1, cf_n25_2, cf_n25_3, cf_n25_4, cf_n25_5, cf_n25_6, cf_n25_7, cf_n25_8, cf_n25_9, cf_g9_0, cf_g9_1, cf_g9_2, cf_g9_3, cf_g9_4, cf_g9_5, cf_g9_6, cf_g9_7, cf_g9_8, cf_g9_9, cf_b_e0, cf_q_0_1, cf_q_0_2, cf_q_0_3, cf_q_0_4, cf_q_0_5, cf_q_0_6, cf_q_0_7, cf_q_0_8, cf_q_0_9, cf_q_1_0, cf_q_1_2, cf_q_1_3, cf_q_1_4, cf_q_1_5, cf_q_1_6, cf_q_1_7, cf_q_1_8, cf_q_1_9, cf_q_2_0, cf_q_2_1, cf_q_2_3, cf_q_2_4, cf_q_2_5, cf_q_2_6, cf_q_2_7, cf_q_2_8, cf_q_2_9, cf_q_3_0, cf_q_3_1, cf_q_3_2, cf_q_3_4, cf_q_3_5, cf_q_3_6, cf_q_3_7, cf_q_3_8, cf_q_3_9, cf_q_4_0, cf_q_4_1, cf_q_4_2, cf_q_4_3, cf_q_4_5, cf_q_4_6, cf_q_4_7, cf_q_4_8, cf_q_4_9, cf_q_5_0, cf_q_5_1, cf_q_5_2, cf_q_5_3, cf_q_5_4, cf_q_5_6, cf_q_5_7, cf_q_5_8, cf_q_5_9, cf_q_6_0, cf_q_6_1, cf_q_6_2, cf_q_6_3, cf_q_6_4, cf_q_6_5, cf_q_6_7, cf_q_6_8, cf_q_6_9, cf_q_7_0, cf_q_7_1, cf_q_7_2, cf_q_7_3, cf_q_7_4, cf_q_7_5, cf_q_7_6, cf_q_7_8, cf_q_7_9, cf_q_8_0, cf_q_8_1, cf_q_8_2, cf_q_8_3, cf_q_8_4, cf_q_8_5, cf_q_8_6, cf_q_8_7, cf_q_8_9, cf_q_9_0, cf_q_9_1, cf_q_9_2, cf_q_9_3, cf_q_9_4, cf_q_9_5, cf_q_9_6, cf_q_9_7, cf_q_9_8, not_true_eq_false, cf_pos hl, reduceCtorEq, cf_wa_wa]
    · exact key n _ st (by omega) hb
    · exact key n _ st (by omega) hb
    · exact key n _ st (by omega) hb
    · exact key n _ st (by omega) hb
    · rw [cf_wa_sw (show (24 : Nat) ≠ 23 by decide)]
      exact key (n + 1) _ _ (by omega) (cf_bdd_u hb h8)
    · rw [cf_wa_sw (show (24 : Nat) ≠ 23 by decide)]
      exact key (n + 1) _ _ (by omega) (cf_bdd_u hb h8)
    · by_cases h0 : n = 0
      · subst h0
        obtain ⟨i, hi, ei⟩ := hb 0 (by omega)
        have i0 : cf_in 0 8 = true := by decide +kernel
        have z0 : (0 : Int32).toNatClampNeg = 0 := by decide +kernel
        simp only [↓reduceIte, i0, z0, true_and, ei, cf_in_nI hi (by decide), nI_clamp (show i < 2 ^ 31 by omega), cf_wa_s, cf_wa_n, pk_us, pk_un, ne_eq, Nat.reduceEqDiff, not_false_eq_true, reduceCtorEq, cf_wa_wa]
        have := key 0 (upd (upd (upd a k (-1)) k (nI i)) i (nI k)) st (by omega) hb
        rw [nI_0] at this
        exact this
      · obtain ⟨m, rfl⟩ : ∃ m, n = m + 1 := ⟨n - 1, by omega⟩
        obtain ⟨i, hi, ei⟩ := hb m (by omega)
        simp only [h0, ↓reduceIte, nI_pred, cf_in_nI (show m < 8 by omega) (by decide), nI_clamp (show m < 2 ^ 31 by omega), true_and, ei, cf_in_nI hi (by decide), nI_clamp (show i < 2 ^ 31 by omega), cf_wa_s, cf_wa_n, pk_us, pk_un, ne_eq, Nat.reduceEqDiff, not_false_eq_true, reduceCtorEq, cf_wa_wa]
        exact key m _ st (by omega) hb
    · exact key n _ st (by omega) hb
    · exact key n _ st (by omega) hb
    · exact key n _ st (by omega) hb
theorem lp_P_pairs {w : cf_Wd} (hcd : ∀ j, j < 8 → cf_cd (w 22 j)) : ∀ d k s q a st, k + d = 8 → cf_pp (w 22) k = some (s, q) → cf_pI (w 22) k s q a st → cf_bdd st → cf_wp T_P_pairs (6, [some (.inr 15), some (.inl (nI s.length)), some (.inl 1), some (.inl (nI k))], [], cf_wa (cf_wa w 24 st) 23 a) (cf_qb (fun x w1 => (∃ a' st', w1 = cf_wa (cf_wa w 24 st') 23 a' ∧ cf_bdd st' ∧ ((x = 1 ∧ ∃ q, cf_pO (w 22) q ∧ cf_pI (w 22) 8 [] q a' st') ∨ (x = 0 ∧ ¬ ∃ q, cf_pO (w 22) q))))) := by
  intro d
  induction d with
  | zero =>
    intro k s q a st hk hp hI hb
    have e : k = 8 := by omega
    subst e
    have hl : s.length < 2 ^ 31 := by have := hI.2.2.1; omega
    refine r_P_pairs_6.mpr ?_
    simp only [r_P_pairs_0, r_P_pairs_1, r_P_pairs_2, r_P_pairs_3, r_P_pairs_4, r_P_pairs_5, r_P_pairs_7, r_P_pairs_9, r_P_pairs_12, r_P_pairs_13, r_P_pairs_16, r_P_pairs_17, r_P_pairs_18, r_P_pairs_19, r_P_pairs_20, r_P_pairs_21, r_P_pairs_24, r_P_pairs_25, c_P_pairs_26 sp_P_in, r_P_pairs_29, r_P_pairs_32, r_P_pairs_33, r_P_pairs_36, r_P_pairs_37, r_P_pairs_38, r_P_pairs_39, r_P_pairs_40, r_P_pairs_41, r_P_pairs_42, r_P_pairs_43, r_P_pairs_44, r_P_pairs_45, r_P_pairs_48, r_P_pairs_50, r_P_pairs_53, r_P_pairs_54, r_P_pairs_57, r_P_pairs_58, r_P_pairs_61, r_P_pairs_62, r_P_pairs_65, r_P_pairs_66, r_P_pairs_67, r_P_pairs_68, r_P_pairs_71, r_P_pairs_72, r_P_pairs_73, r_P_pairs_74, r_P_pairs_77, r_P_pairs_78, r_P_pairs_79, r_P_pairs_80, r_P_pairs_83, r_P_pairs_84, r_P_pairs_85, r_P_pairs_88, r_P_pairs_89, r_P_pairs_90, r_P_pairs_91, r_P_pairs_92, r_P_pairs_95, r_P_pairs_96, r_P_pairs_99, r_P_pairs_100, r_P_pairs_101, r_P_pairs_102, r_P_pairs_103, r_P_pairs_106, r_P_pairs_109, r_P_pairs_110, r_P_pairs_113, r_P_pairs_114, r_P_pairs_117, r_P_pairs_118, r_P_pairs_121, r_P_pairs_122, cf_ge88, ↓reduceIte, cf_ne0 hl, cf_q_0_1, cf_q_0_2, cf_q_0_3, cf_q_0_4, cf_q_0_5, cf_q_0_6, cf_q_0_7, cf_q_0_8, cf_q_0_9, cf_q_1_0, cf_q_1_2, cf_q_1_3, cf_q_1_4, cf_q_1_5, cf_q_1_6, cf_q_1_7, cf_q_1_8, cf_q_1_9, cf_q_2_0, cf_q_2_1, cf_q_2_3, cf_q_2_4, cf_q_2_5, cf_q_2_6, cf_q_2_7, cf_q_2_8, cf_q_2_9, cf_q_3_0, cf_q_3_1, cf_q_3_2, cf_q_3_4, cf_q_3_5, cf_q_3_6, cf_q_3_7, cf_q_3_8, cf_q_3_9, cf_q_4_0, cf_q_4_1, cf_q_4_2, cf_q_4_3, cf_q_4_5, cf_q_4_6, cf_q_4_7, cf_q_4_8, cf_q_4_9, cf_q_5_0, cf_q_5_1, cf_q_5_2, cf_q_5_3, cf_q_5_4, cf_q_5_6, cf_q_5_7, cf_q_5_8, cf_q_5_9, cf_q_6_0, cf_q_6_1, cf_q_6_2, cf_q_6_3, cf_q_6_4, cf_q_6_5, cf_q_6_7, cf_q_6_8, cf_q_6_9, cf_q_7_0, cf_q_7_1, cf_q_7_2, cf_q_7_3, cf_q_7_4, cf_q_7_5, cf_q_7_6, cf_q_7_8, cf_q_7_9, cf_q_8_0, cf_q_8_1, cf_q_8_2, cf_q_8_3, cf_q_8_4, cf_q_8_5, cf_q_8_6, cf_q_8_7, cf_q_8_9, cf_q_9_0, cf_q_9_1, cf_q_9_2, cf_q_9_3, cf_q_9_4, cf_q_9_5, cf_q_9_6, cf_q_9_7, cf_q_9_8]
    by_cases h0 : s.length = 0
    · have e : s = [] := List.eq_nil_of_length_eq_zero h0
      subst e
      rw [if_neg (fun x => x h0)]
      exact ⟨by simp, a, st, rfl, hb, Or.inl ⟨by simp, q, hp, hI⟩⟩
    · rw [if_pos h0]
      refine ⟨by simp, a, st, rfl, hb, Or.inr ⟨by simp, fun ⟨q2, hq⟩ => ?_⟩⟩
      have hq : cf_pp (w 22) 8 = some ([], q2) := hq
      rw [hp] at hq
      have e : s = [] := congrArg Prod.fst (Option.some.inj hq)
      rw [e] at h0
      exact h0 rfl
  | succ d ih =>
    intro k s q a st hk hp hI hb
    have h8 : k < 8 := by omega
    have hl : s.length < 2 ^ 31 := by have := hI.2.2.1; omega
    have hl8 : s.length < 8 := by have := hI.2.2.1; omega
    have skip := fun (hpk : ¬ cf_pk (w 22 k)) => ih (k + 1) s q (upd a k (-1)) st (by omega) (cf_pp_s hp hpk) (cf_pI_skip hpk (cf_pI_u hI)) hb
    have nopk : ∀ o : Int32, cf_op (w 22 k) = o → o ≠ 4 → o ≠ 5 → o ≠ 6 → ¬ cf_pk (w 22 k) := fun o e h4 h5 h6 x => by
      rcases x with x | x | x
      · exact h4 (e.symm.trans x)
      · exact h5 (e.symm.trans x)
      · exact h6 (e.symm.trans x)
    have push := fun (h4 : cf_op (w 22 k) = 4 ∨ cf_op (w 22 k) = 5) => ih (k + 1) (k :: s) q (upd a k (-1)) (upd st s.length (nI k)) (by omega) (cf_pp_4 hp h4) (cf_pI_push h8 (cf_pI_u hI)) (cf_bdd_u hb h8)
    refine r_P_pairs_6.mpr ?_
    rcases cf_op10 (hcd k h8) with e | e | e | e | e | e | e | e | e | e
    all_goals
      simp only [r_P_pairs_0, r_P_pairs_1, r_P_pairs_2, r_P_pairs_3, r_P_pairs_4, r_P_pairs_5, r_P_pairs_7, r_P_pairs_9, r_P_pairs_12, r_P_pairs_13, r_P_pairs_16, r_P_pairs_17, r_P_pairs_18, r_P_pairs_19, r_P_pairs_20, c_P_pairs_21 (sp_P_operation h8), r_P_pairs_24, r_P_pairs_25, c_P_pairs_26 sp_P_in, r_P_pairs_29, r_P_pairs_32, r_P_pairs_33, r_P_pairs_36, r_P_pairs_37, r_P_pairs_38, r_P_pairs_39, r_P_pairs_40, r_P_pairs_41, r_P_pairs_42, r_P_pairs_43, r_P_pairs_44, c_P_pairs_45 (sp_P_operation h8), r_P_pairs_48, r_P_pairs_50, r_P_pairs_53, r_P_pairs_54, r_P_pairs_57, r_P_pairs_58, r_P_pairs_61, r_P_pairs_62, r_P_pairs_65, r_P_pairs_66, r_P_pairs_67, r_P_pairs_68, r_P_pairs_71, r_P_pairs_72, r_P_pairs_73, r_P_pairs_74, r_P_pairs_77, r_P_pairs_78, r_P_pairs_79, r_P_pairs_80, r_P_pairs_83, r_P_pairs_84, r_P_pairs_85, r_P_pairs_88, r_P_pairs_89, r_P_pairs_90, r_P_pairs_91, r_P_pairs_92, r_P_pairs_95, r_P_pairs_96, r_P_pairs_99, r_P_pairs_100, r_P_pairs_101, r_P_pairs_102, r_P_pairs_103, r_P_pairs_106, r_P_pairs_109, r_P_pairs_110, r_P_pairs_113, r_P_pairs_114, r_P_pairs_117, r_P_pairs_118, r_P_pairs_121, r_P_pairs_122, cf_ge8 h8, ↓reduceIte, nI_1, cf_in_nI h8 (by decide), true_and, nI_clamp (show k < 2 ^ 31 by omega), cf_in_nI hl8 (by decide), nI_clamp hl, cf_wa_s, cf_wa_n, pk_us, pk_un, ne_eq, Nat.reduceEqDiff, not_false_eq_true, reduceCtorEq, e, cf_n45_0, cf_n45_1, cf_n45_2, cf_n45_3, cf_n45_4, cf_n45_5, cf_n45_6, cf_n45_7, cf_n45_8, cf_n45_9, cf_n25_0, cf_n25_1, cf_n25_2, cf_n25_3, cf_n25_4, cf_n25_5, cf_n25_6, cf_n25_7, cf_n25_8, cf_n25_9, cf_g9_0, cf_g9_1, cf_g9_2, cf_g9_3, cf_g9_4, cf_g9_5, cf_g9_6, cf_g9_7, cf_g9_8, cf_g9_9, cf_b_e0, cf_q_0_1, cf_q_0_2, cf_q_0_3, cf_q_0_4, cf_q_0_5, cf_q_0_6, cf_q_0_7, cf_q_0_8, cf_q_0_9, cf_q_1_0, cf_q_1_2, cf_q_1_3, cf_q_1_4, cf_q_1_5, cf_q_1_6, cf_q_1_7, cf_q_1_8, cf_q_1_9, cf_q_2_0, cf_q_2_1, cf_q_2_3, cf_q_2_4, cf_q_2_5, cf_q_2_6, cf_q_2_7, cf_q_2_8, cf_q_2_9, cf_q_3_0, cf_q_3_1, cf_q_3_2, cf_q_3_4, cf_q_3_5, cf_q_3_6, cf_q_3_7, cf_q_3_8, cf_q_3_9, cf_q_4_0, cf_q_4_1, cf_q_4_2, cf_q_4_3, cf_q_4_5, cf_q_4_6, cf_q_4_7, cf_q_4_8, cf_q_4_9, cf_q_5_0, cf_q_5_1, cf_q_5_2, cf_q_5_3, cf_q_5_4, cf_q_5_6, cf_q_5_7, cf_q_5_8, cf_q_5_9, cf_q_6_0, cf_q_6_1, cf_q_6_2, cf_q_6_3, cf_q_6_4, cf_q_6_5, cf_q_6_7, cf_q_6_8, cf_q_6_9, cf_q_7_0, cf_q_7_1, cf_q_7_2, cf_q_7_3, cf_q_7_4, cf_q_7_5, cf_q_7_6, cf_q_7_8, cf_q_7_9, cf_q_8_0, cf_q_8_1, cf_q_8_2, cf_q_8_3, cf_q_8_4, cf_q_8_5, cf_q_8_6, cf_q_8_7, cf_q_8_9, cf_q_9_0, cf_q_9_1, cf_q_9_2, cf_q_9_3, cf_q_9_4, cf_q_9_5, cf_q_9_6, cf_q_9_7, cf_q_9_8, not_true_eq_false, cf_pos hl, reduceCtorEq, cf_wa_wa]
    · exact skip (nopk _ e (by decide) (by decide) (by decide))
    · exact skip (nopk _ e (by decide) (by decide) (by decide))
    · exact skip (nopk _ e (by decide) (by decide) (by decide))
    · exact skip (nopk _ e (by decide) (by decide) (by decide))
    · rw [cf_wa_sw (show (24 : Nat) ≠ 23 by decide)]
      exact push (Or.inl e)
    · rw [cf_wa_sw (show (24 : Nat) ≠ 23 by decide)]
      exact push (Or.inr e)
    · cases s with
      | nil =>
        obtain ⟨i, hi, ei⟩ := hb 0 (by omega)
        have i0 : cf_in 0 8 = true := by decide +kernel
        have z0 : (0 : Int32).toNatClampNeg = 0 := by decide +kernel
        simp only [List.length_nil, ↓reduceIte, i0, z0, true_and, ei, cf_in_nI hi (by decide), nI_clamp (show i < 2 ^ 31 by omega), cf_wa_s, cf_wa_n, pk_us, pk_un, ne_eq, Nat.reduceEqDiff, not_false_eq_true, reduceCtorEq, cf_wa_wa]
        have h9 := lp_P_pairs0 hcd d (k + 1) 0 (upd (upd (upd a k (-1)) k (nI i)) i (nI k)) st (by omega) (by omega) hb
        rw [nI_0] at h9
        obtain ⟨r, h91, h92⟩ := h9
        refine ⟨r, h91, ?_⟩
        obtain ⟨v, w2⟩ := r
        cases v with
        | none => exact h92.elim
        | some v => cases v with
          | inr z => exact h92.elim
          | inl x =>
            obtain ⟨h01, a', st', e1, e2, e3⟩ := h92
            refine ⟨h01, a', st', e1, e2, Or.inr ⟨e3, fun ⟨q2, hq⟩ => ?_⟩⟩
            have hn := cf_pp_n (cf_pp_60 hp e) (7 - k)
            have e : k + 1 + (7 - k) = 8 := by omega
            rw [e] at hn
            have hq : cf_pp (w 22) 8 = some ([], q2) := hq
            rw [hn] at hq
            cases hq
      | cons i s =>
        have hi : i < k := hI.2.1 i List.mem_cons_self
        have e0 : st s.length = nI i := by
          have := hI.1 0 i rfl
          simpa using this
        have key := ih (k + 1) s (upd (upd q k (nI i)) i (nI k)) (upd (upd a k (nI i)) i (nI k)) st (by omega) (cf_pp_6 hp e) (cf_pI_pop h8 hI) hb
        have hl2 : s.length < 8 := by simp at hl8; omega
        have hne : ¬ (i :: s).length = 0 := by simp
        simp only [hne, ↓reduceIte, List.length_cons, nI_pred, cf_in_nI hl2 (by decide), nI_clamp (show s.length < 2 ^ 31 by omega), true_and, cf_wa_s, cf_wa_n, pk_us, pk_un, ne_eq, Nat.reduceEqDiff, not_false_eq_true, reduceCtorEq, e0, cf_wa_wa, cf_uu, cf_in_nI (show i < 8 by omega) (by decide), nI_clamp (show i < 2 ^ 31 by omega)]
        exact key
    · exact skip (nopk _ e (by decide) (by decide) (by decide))
    · exact skip (nopk _ e (by decide) (by decide) (by decide))
    · exact skip (nopk _ e (by decide) (by decide) (by decide))
theorem sp_P_pairs {w : cf_Wd} (hcd : ∀ j, j < 8 → cf_cd (w 22 j)) (hb : cf_bdd (w 24)) : ∃ x w1, F_P_pairs [.inr 15] w = some (some (.inl x), w1) ∧ (∃ a' st', w1 = cf_wa (cf_wa w 24 st') 23 a' ∧ cf_bdd st' ∧ ((x = 1 ∧ ∃ q, cf_pO (w 22) q ∧ cf_pI (w 22) 8 [] q a' st') ∨ (x = 0 ∧ ¬ ∃ q, cf_pO (w 22) q))) := by
  refine e_P_pairs ?_
  simp only [r_P_pairs_0, r_P_pairs_1, r_P_pairs_2, r_P_pairs_3, r_P_pairs_4, r_P_pairs_5]
  have h := lp_P_pairs (w := w) hcd 8 0 [] (fun _ => -1) (w 23) (w 24) (by omega) rfl ⟨fun i x hx => by simp at hx, fun x hx => by simp at hx, Nat.zero_le _, fun j hj => absurd hj (Nat.not_lt_zero j)⟩ hb
  rw [cf_wa_id (w := w) (k := 24) rfl, cf_wa_id (w := w) (k := 23) rfl] at h
  exact h
/-! the reference: what is set before it is read -/
def cf_ist (p : Nat → Int32) (v : Int32) (k : Nat) : Prop := v = 0 ∨ ∃ j, j < k ∧ (cf_op (p j) = 1 ∨ cf_op (p j) = 8) ∧ cf_lf (p j) = v
theorem cf_ist_s {p : Nat → Int32} {v : Int32} {k : Nat} : cf_ist p v (k + 1) ↔ (cf_ist p v k ∨ ((cf_op (p k) = 1 ∨ cf_op (p k) = 8) ∧ cf_lf (p k) = v)) := by
  constructor
  · intro h
    rcases h with h | ⟨j, hj, h⟩
    · exact Or.inl (Or.inl h)
    · by_cases e : j = k
      · subst e
        exact Or.inr h
      · exact Or.inl (Or.inr ⟨j, by omega, h⟩)
  · intro h
    rcases h with (h | ⟨j, hj, h⟩) | h
    · exact Or.inl h
    · exact Or.inr ⟨j, by omega, h⟩
    · exact Or.inr ⟨k, by omega, h⟩
theorem lp_P_isSet {w : cf_Wd} {v : Int32} {k : Nat} (hk : k ≤ 8) : ∀ d j x, j + d = k → ((x = 1 ∧ cf_ist (w 22) v j) ∨ (x = 0 ∧ ¬ cf_ist (w 22) v j)) → cf_wp T_P_isSet (13, [some (.inr 15), some (.inl v), some (.inl (nI k)), some (.inl x), some (.inl (nI j))], [], w) (cf_qb (fun x w1 => ((x = 1 ∧ cf_ist (w 22) v k) ∨ (x = 0 ∧ ¬ cf_ist (w 22) v k)) ∧ w1 = w)) := by
  intro d
  induction d with
  | zero =>
    intro j x hj hx
    have e : j = k := by omega
    subst e
    have hc : (nI j ≤ nI j) = True := eq_true (nI_le (Nat.le_refl j) (by omega))
    refine r_P_isSet_13.mpr ?_
    simp only [r_P_isSet_0, r_P_isSet_1, r_P_isSet_4, r_P_isSet_5, r_P_isSet_8, r_P_isSet_9, r_P_isSet_10, r_P_isSet_11, r_P_isSet_15, r_P_isSet_16, r_P_isSet_19, r_P_isSet_20, r_P_isSet_23, r_P_isSet_24, r_P_isSet_26, r_P_isSet_29, r_P_isSet_30, r_P_isSet_33, r_P_isSet_34, r_P_isSet_36, r_P_isSet_39, r_P_isSet_41, r_P_isSet_44, r_P_isSet_45, r_P_isSet_47, r_P_isSet_50, r_P_isSet_51, r_P_isSet_54, r_P_isSet_55, r_P_isSet_58, r_P_isSet_59, r_P_isSet_60, r_P_isSet_63, r_P_isSet_66, r_P_isSet_67, hc, ↓reduceIte]
    refine ⟨?_, hx, by simp⟩
    rcases hx with ⟨h, _⟩ | ⟨h, _⟩
    · exact Or.inr h
    · exact Or.inl h
  | succ d ih =>
    intro j x hj hx
    have hc : (nI k ≤ nI j) = False := eq_false (nI_ge (by omega) (by omega))
    have h8 : j < 8 := by omega
    have key := fun x => ih (j + 1) x (by omega)
    refine r_P_isSet_13.mpr ?_
    simp only [r_P_isSet_0, r_P_isSet_1, r_P_isSet_4, r_P_isSet_5, r_P_isSet_8, r_P_isSet_9, r_P_isSet_10, r_P_isSet_11, r_P_isSet_15, r_P_isSet_16, r_P_isSet_19, r_P_isSet_20, r_P_isSet_23, r_P_isSet_24, c_P_isSet_26 (sp_P_operation h8), r_P_isSet_29, r_P_isSet_30, r_P_isSet_33, r_P_isSet_34, c_P_isSet_36 (sp_P_operation h8), r_P_isSet_39, r_P_isSet_41, r_P_isSet_44, r_P_isSet_45, c_P_isSet_47 (sp_P_a h8), r_P_isSet_50, r_P_isSet_51, r_P_isSet_54, r_P_isSet_55, r_P_isSet_58, r_P_isSet_59, r_P_isSet_60, r_P_isSet_63, r_P_isSet_66, r_P_isSet_67, hc, ↓reduceIte, nI_1]
    rcases hx with ⟨rfl, hx⟩ | ⟨rfl, hx⟩
    · simp only [cf_q_0_1, cf_q_0_2, cf_q_0_3, cf_q_0_4, cf_q_0_5, cf_q_0_6, cf_q_0_7, cf_q_0_8, cf_q_0_9, cf_q_1_0, cf_q_1_2, cf_q_1_3, cf_q_1_4, cf_q_1_5, cf_q_1_6, cf_q_1_7, cf_q_1_8, cf_q_1_9, cf_q_2_0, cf_q_2_1, cf_q_2_3, cf_q_2_4, cf_q_2_5, cf_q_2_6, cf_q_2_7, cf_q_2_8, cf_q_2_9, cf_q_3_0, cf_q_3_1, cf_q_3_2, cf_q_3_4, cf_q_3_5, cf_q_3_6, cf_q_3_7, cf_q_3_8, cf_q_3_9, cf_q_4_0, cf_q_4_1, cf_q_4_2, cf_q_4_3, cf_q_4_5, cf_q_4_6, cf_q_4_7, cf_q_4_8, cf_q_4_9, cf_q_5_0, cf_q_5_1, cf_q_5_2, cf_q_5_3, cf_q_5_4, cf_q_5_6, cf_q_5_7, cf_q_5_8, cf_q_5_9, cf_q_6_0, cf_q_6_1, cf_q_6_2, cf_q_6_3, cf_q_6_4, cf_q_6_5, cf_q_6_7, cf_q_6_8, cf_q_6_9, cf_q_7_0, cf_q_7_1, cf_q_7_2, cf_q_7_3, cf_q_7_4, cf_q_7_5, cf_q_7_6, cf_q_7_8, cf_q_7_9, cf_q_8_0, cf_q_8_1, cf_q_8_2, cf_q_8_3, cf_q_8_4, cf_q_8_5, cf_q_8_6, cf_q_8_7, cf_q_8_9, cf_q_9_0, cf_q_9_1, cf_q_9_2, cf_q_9_3, cf_q_9_4, cf_q_9_5, cf_q_9_6, cf_q_9_7, cf_q_9_8, not_false_eq_true, ↓reduceIte]
      exact key 1 (Or.inl ⟨rfl, cf_ist_s.mpr (Or.inl hx)⟩)
    · simp only [not_true_eq_false, ↓reduceIte]
      by_cases h1 : cf_op (w 22 j) = 1 ∨ cf_op (w 22 j) = 8
      · by_cases h2 : cf_lf (w 22 j) = v
        · have k1 := key 1 (Or.inl ⟨rfl, cf_ist_s.mpr (Or.inr ⟨h1, h2⟩)⟩)
          by_cases h3 : cf_op (w 22 j) = 1
          · simp only [h3, h2, not_true_eq_false, ↓reduceIte]
            exact k1
          · have h4 : cf_op (w 22 j) = 8 := by
              rcases h1 with h1 | h1
              · exact absurd h1 h3
              · exact h1
            simp only [h4, h2, cf_q_0_1, cf_q_0_2, cf_q_0_3, cf_q_0_4, cf_q_0_5, cf_q_0_6, cf_q_0_7, cf_q_0_8, cf_q_0_9, cf_q_1_0, cf_q_1_2, cf_q_1_3, cf_q_1_4, cf_q_1_5, cf_q_1_6, cf_q_1_7, cf_q_1_8, cf_q_1_9, cf_q_2_0, cf_q_2_1, cf_q_2_3, cf_q_2_4, cf_q_2_5, cf_q_2_6, cf_q_2_7, cf_q_2_8, cf_q_2_9, cf_q_3_0, cf_q_3_1, cf_q_3_2, cf_q_3_4, cf_q_3_5, cf_q_3_6, cf_q_3_7, cf_q_3_8, cf_q_3_9, cf_q_4_0, cf_q_4_1, cf_q_4_2, cf_q_4_3, cf_q_4_5, cf_q_4_6, cf_q_4_7, cf_q_4_8, cf_q_4_9, cf_q_5_0, cf_q_5_1, cf_q_5_2, cf_q_5_3, cf_q_5_4, cf_q_5_6, cf_q_5_7, cf_q_5_8, cf_q_5_9, cf_q_6_0, cf_q_6_1, cf_q_6_2, cf_q_6_3, cf_q_6_4, cf_q_6_5, cf_q_6_7, cf_q_6_8, cf_q_6_9, cf_q_7_0, cf_q_7_1, cf_q_7_2, cf_q_7_3, cf_q_7_4, cf_q_7_5, cf_q_7_6, cf_q_7_8, cf_q_7_9, cf_q_8_0, cf_q_8_1, cf_q_8_2, cf_q_8_3, cf_q_8_4, cf_q_8_5, cf_q_8_6, cf_q_8_7, cf_q_8_9, cf_q_9_0, cf_q_9_1, cf_q_9_2, cf_q_9_3, cf_q_9_4, cf_q_9_5, cf_q_9_6, cf_q_9_7, cf_q_9_8, not_true_eq_false, ↓reduceIte]
            exact k1
        · have k0 := key 0 (Or.inr ⟨rfl, fun x => by
            rcases cf_ist_s.mp x with x | ⟨_, x⟩
            · exact hx x
            · exact h2 x⟩)
          by_cases h3 : cf_op (w 22 j) = 1
          · simp only [h3, h2, not_false_eq_true, ↓reduceIte]
            exact k0
          · have h4 : cf_op (w 22 j) = 8 := by
              rcases h1 with h1 | h1
              · exact absurd h1 h3
              · exact h1
            simp only [h4, h2, cf_q_0_1, cf_q_0_2, cf_q_0_3, cf_q_0_4, cf_q_0_5, cf_q_0_6, cf_q_0_7, cf_q_0_8, cf_q_0_9, cf_q_1_0, cf_q_1_2, cf_q_1_3, cf_q_1_4, cf_q_1_5, cf_q_1_6, cf_q_1_7, cf_q_1_8, cf_q_1_9, cf_q_2_0, cf_q_2_1, cf_q_2_3, cf_q_2_4, cf_q_2_5, cf_q_2_6, cf_q_2_7, cf_q_2_8, cf_q_2_9, cf_q_3_0, cf_q_3_1, cf_q_3_2, cf_q_3_4, cf_q_3_5, cf_q_3_6, cf_q_3_7, cf_q_3_8, cf_q_3_9, cf_q_4_0, cf_q_4_1, cf_q_4_2, cf_q_4_3, cf_q_4_5, cf_q_4_6, cf_q_4_7, cf_q_4_8, cf_q_4_9, cf_q_5_0, cf_q_5_1, cf_q_5_2, cf_q_5_3, cf_q_5_4, cf_q_5_6, cf_q_5_7, cf_q_5_8, cf_q_5_9, cf_q_6_0, cf_q_6_1, cf_q_6_2, cf_q_6_3, cf_q_6_4, cf_q_6_5, cf_q_6_7, cf_q_6_8, cf_q_6_9, cf_q_7_0, cf_q_7_1, cf_q_7_2, cf_q_7_3, cf_q_7_4, cf_q_7_5, cf_q_7_6, cf_q_7_8, cf_q_7_9, cf_q_8_0, cf_q_8_1, cf_q_8_2, cf_q_8_3, cf_q_8_4, cf_q_8_5, cf_q_8_6, cf_q_8_7, cf_q_8_9, cf_q_9_0, cf_q_9_1, cf_q_9_2, cf_q_9_3, cf_q_9_4, cf_q_9_5, cf_q_9_6, cf_q_9_7, cf_q_9_8, not_true_eq_false, not_false_eq_true, ↓reduceIte]
            exact k0
      · have k0 := key 0 (Or.inr ⟨rfl, fun x => by
          rcases cf_ist_s.mp x with x | ⟨x, _⟩
          · exact hx x
          · exact h1 x⟩)
        have h3 : ¬ cf_op (w 22 j) = 1 := fun x => h1 (Or.inl x)
        have h4 : ¬ cf_op (w 22 j) = 8 := fun x => h1 (Or.inr x)
        simp only [h3, h4, not_false_eq_true, ↓reduceIte]
        exact k0
theorem sp_P_isSet {w : cf_Wd} {v : Int32} {k : Nat} (hk : k ≤ 8) : ∃ x w1, F_P_isSet [.inr 15, .inl v, .inl (nI k)] w = some (some (.inl x), w1) ∧ (((x = 1 ∧ cf_ist (w 22) v k) ∨ (x = 0 ∧ ¬ cf_ist (w 22) v k)) ∧ w1 = w) := by
  refine e_P_isSet ?_
  have hz := nI_0
  have n0 : ¬ ∃ j, j < 0 ∧ (cf_op (w 22 j) = 1 ∨ cf_op (w 22 j) = 8) ∧ cf_lf (w 22 j) = v := fun ⟨j, hj, _⟩ => Nat.not_lt_zero j hj
  simp only [r_P_isSet_0, r_P_isSet_1, r_P_isSet_4, r_P_isSet_5, r_P_isSet_8, r_P_isSet_9, r_P_isSet_10, r_P_isSet_11, r_P_isSet_15, r_P_isSet_16, r_P_isSet_19, r_P_isSet_20, r_P_isSet_23, r_P_isSet_24, r_P_isSet_26, r_P_isSet_29, r_P_isSet_30, r_P_isSet_33, r_P_isSet_34, r_P_isSet_36, r_P_isSet_39, r_P_isSet_41, r_P_isSet_44, r_P_isSet_45, r_P_isSet_47, r_P_isSet_50, r_P_isSet_51, r_P_isSet_54, r_P_isSet_55, r_P_isSet_58, r_P_isSet_59, r_P_isSet_60, r_P_isSet_63, r_P_isSet_66, r_P_isSet_67]
  by_cases h : v = 0
  · have k1 := lp_P_isSet (w := w) (v := v) hk k 0 1 (by omega) (Or.inl ⟨rfl, Or.inl h⟩)
    rw [hz] at k1
    simp only [h, not_true_eq_false, ↓reduceIte] at k1 ⊢
    exact k1
  · have k1 := lp_P_isSet (w := w) (v := v) hk k 0 0 (by omega) (Or.inr ⟨rfl, fun x => by
      rcases x with x | x
      · exact h x
      · exact n0 x⟩)
    rw [hz] at k1
    simp only [h, not_false_eq_true, ↓reduceIte]
    exact k1
/-- line k reads what is set -/
def cf_rA (c : Int32) : Prop := cf_op c = 2 ∨ cf_op c = 3 ∨ cf_op c = 4 ∨ cf_op c = 5 ∨ cf_op c = 7
def cf_rB (c : Int32) : Prop := cf_op c = 2 ∨ cf_op c = 8
def cf_okl (p : Nat → Int32) (k : Nat) : Prop := cf_op (p k) ≠ 9 ∧ (cf_rA (p k) → cf_ist p (cf_lf (p k)) k) ∧ (cf_rB (p k) → cf_ist p (cf_rt (p k)) k)
