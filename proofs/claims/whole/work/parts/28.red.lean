/-! pieces of a set of lines: (lines so far, place) behind k lines -/
def cf_pf (s fr to : Int32) : Nat → Int32 × Int32
  | 0 => (0, 0)
  | k + 1 => if bt s k = true then (if (cf_pf s fr to k).2 < fr ∨ to ≤ (cf_pf s fr to k).2 then (cf_pf s fr to k).1 else (cf_pf s fr to k).1 ||| 1 <<< (nI k &&& 31), (cf_pf s fr to k).2 + 1) else cf_pf s fr to k
theorem cf_pf_f {s fr to : Int32} {k : Nat} (h : bt s k = false) : cf_pf s fr to (k + 1) = cf_pf s fr to k := if_neg (by rw [h]; decide)
theorem cf_pf_t {s fr to : Int32} {k : Nat} (h : bt s k = true) : cf_pf s fr to (k + 1) = (if (cf_pf s fr to k).2 < fr ∨ to ≤ (cf_pf s fr to k).2 then (cf_pf s fr to k).1 else (cf_pf s fr to k).1 ||| 1 <<< (nI k &&& 31), (cf_pf s fr to k).2 + 1) := if_pos h
theorem lp_R_placesOfSet {w : cf_Wd} {fr to : Int32} : ∀ d k, k + d = 8 → cf_wp T_R_placesOfSet (8, [some (.inr 11), some (.inl fr), some (.inl to), some (.inl (cf_pf (w 11 1) fr to k).2), some (.inl (cf_pf (w 11 1) fr to k).1), some (.inl (nI k))], [], w) (cf_qi (fun x w1 => x = (cf_pf (w 11 1) fr to 8).1 ∧ w1 = w)) := by
  intro d
  induction d with
  | zero =>
    intro k hk
    have e : k = 8 := by omega
    subst e
    refine r_R_placesOfSet_8.mpr ?_
    simp only [r_R_placesOfSet_0, r_R_placesOfSet_1, r_R_placesOfSet_2, r_R_placesOfSet_3, r_R_placesOfSet_5, r_R_placesOfSet_6, r_R_placesOfSet_10, r_R_placesOfSet_12, r_R_placesOfSet_15, r_R_placesOfSet_16, r_R_placesOfSet_19, r_R_placesOfSet_21, r_R_placesOfSet_22, r_R_placesOfSet_23, r_R_placesOfSet_24, r_R_placesOfSet_27, r_R_placesOfSet_28, r_R_placesOfSet_29, r_R_placesOfSet_32, r_R_placesOfSet_33, r_R_placesOfSet_34, r_R_placesOfSet_37, r_R_placesOfSet_39, r_R_placesOfSet_40, r_R_placesOfSet_42, r_R_placesOfSet_43, r_R_placesOfSet_44, r_R_placesOfSet_46, r_R_placesOfSet_49, r_R_placesOfSet_52, r_R_placesOfSet_55, r_R_placesOfSet_57, cf_ge88, ↓reduceIte, and_self]
  | succ d ih =>
    intro k hk
    have h8 : k < 8 := by omega
    have ih1 := ih (k + 1) (by omega)
    refine r_R_placesOfSet_8.mpr ?_
    cases hb : bt (w 11 1) k
    · rw [cf_pf_f hb] at ih1
      simp only [r_R_placesOfSet_0, r_R_placesOfSet_1, r_R_placesOfSet_2, r_R_placesOfSet_3, r_R_placesOfSet_5, r_R_placesOfSet_6, r_R_placesOfSet_10, r_R_placesOfSet_12, r_R_placesOfSet_15, r_R_placesOfSet_16, r_R_placesOfSet_19, r_R_placesOfSet_21, r_R_placesOfSet_22, r_R_placesOfSet_23, r_R_placesOfSet_24, r_R_placesOfSet_27, r_R_placesOfSet_28, r_R_placesOfSet_29, r_R_placesOfSet_32, r_R_placesOfSet_33, r_R_placesOfSet_34, r_R_placesOfSet_37, r_R_placesOfSet_39, r_R_placesOfSet_40, r_R_placesOfSet_42, r_R_placesOfSet_43, r_R_placesOfSet_44, r_R_placesOfSet_46, r_R_placesOfSet_49, r_R_placesOfSet_52, r_R_placesOfSet_55, r_R_placesOfSet_57, cf_ge8 h8, ↓reduceIte, nI_1, bt_e0 (show k < 32 by omega), hb]
      exact ih1
    · rw [cf_pf_t hb] at ih1
      simp only [r_R_placesOfSet_0, r_R_placesOfSet_1, r_R_placesOfSet_2, r_R_placesOfSet_3, r_R_placesOfSet_5, r_R_placesOfSet_6, r_R_placesOfSet_10, r_R_placesOfSet_12, r_R_placesOfSet_15, r_R_placesOfSet_16, r_R_placesOfSet_19, r_R_placesOfSet_21, r_R_placesOfSet_22, r_R_placesOfSet_23, r_R_placesOfSet_24, r_R_placesOfSet_27, r_R_placesOfSet_28, r_R_placesOfSet_29, r_R_placesOfSet_32, r_R_placesOfSet_33, r_R_placesOfSet_34, r_R_placesOfSet_37, r_R_placesOfSet_39, r_R_placesOfSet_40, r_R_placesOfSet_42, r_R_placesOfSet_43, r_R_placesOfSet_44, r_R_placesOfSet_46, r_R_placesOfSet_49, r_R_placesOfSet_52, r_R_placesOfSet_55, r_R_placesOfSet_57, cf_ge8 h8, ↓reduceIte, nI_1, bt_e0 (show k < 32 by omega), hb, reduceCtorEq]
      by_cases h1 : (cf_pf (w 11 1) fr to k).2 < fr
      · simp only [h1, true_or, ↓reduceIte] at ih1 ⊢
        exact ih1
      · by_cases h2 : to ≤ (cf_pf (w 11 1) fr to k).2
        · simp only [h1, h2, or_true, ↓reduceIte] at ih1 ⊢
          exact ih1
        · simp only [h1, h2, or_self, ↓reduceIte] at ih1 ⊢
          exact ih1
theorem sp_R_placesOfSet {w : cf_Wd} {fr to : Int32} : F_R_placesOfSet [.inr 11, .inl fr, .inl to] w = some (some (.inl (cf_pf (w 11 1) fr to 8).1), w) := by
  refine cf_is (e_R_placesOfSet ?_)
  simp only [r_R_placesOfSet_0, r_R_placesOfSet_1, r_R_placesOfSet_2, r_R_placesOfSet_3, r_R_placesOfSet_5, r_R_placesOfSet_6, r_R_placesOfSet_10, r_R_placesOfSet_12, r_R_placesOfSet_15, r_R_placesOfSet_16, r_R_placesOfSet_19, r_R_placesOfSet_21, r_R_placesOfSet_22, r_R_placesOfSet_23, r_R_placesOfSet_24, r_R_placesOfSet_27, r_R_placesOfSet_28, r_R_placesOfSet_29, r_R_placesOfSet_32, r_R_placesOfSet_33, r_R_placesOfSet_34, r_R_placesOfSet_37, r_R_placesOfSet_39, r_R_placesOfSet_40, r_R_placesOfSet_42, r_R_placesOfSet_43, r_R_placesOfSet_44, r_R_placesOfSet_46, r_R_placesOfSet_49, r_R_placesOfSet_52, r_R_placesOfSet_55, r_R_placesOfSet_57]
  exact lp_R_placesOfSet 8 0 (by omega)
def cf_pc (s i n : Int32) : Int32 := (cf_pf s (i * nI (cf_pw s) / n) ((i + 1) * nI (cf_pw s) / n) 8).1
def cf_sn (s n : Int32) (rest : Bool) (i : Int32) : Int32 := if rest = true then s &&& (cf_pc s i n ^^^ -1) else cf_pc s i n
theorem lp_P_piece {w : cf_Wd} {s i n z fr to : Int32} : ∀ d k, k + d = 8 → ∀ l9, cf_wp T_P_piece (30, [some (.inl s), some (.inl i), some (.inl n), some (.inl z), some (.inl fr), some (.inl to), some (.inl (cf_pf s fr to k).1), some (.inl (cf_pf s fr to k).2), some (.inl (nI k)), l9], [], w) (cf_qi (fun x w1 => x = (cf_pf s fr to 8).1 ∧ w1 = w)) := by
  intro d
  induction d with
  | zero =>
    intro k hk l9
    have e : k = 8 := by omega
    subst e
    refine r_P_piece_30.mpr ?_
    simp only [r_P_piece_0, r_P_piece_1, r_P_piece_4, r_P_piece_5, r_P_piece_6, r_P_piece_7, r_P_piece_8, r_P_piece_9, r_P_piece_10, r_P_piece_12, r_P_piece_13, r_P_piece_14, r_P_piece_15, r_P_piece_16, r_P_piece_17, r_P_piece_18, r_P_piece_19, r_P_piece_21, r_P_piece_22, r_P_piece_24, r_P_piece_25, r_P_piece_27, r_P_piece_28, r_P_piece_32, r_P_piece_34, r_P_piece_37, r_P_piece_38, r_P_piece_40, r_P_piece_41, r_P_piece_42, r_P_piece_43, r_P_piece_44, r_P_piece_47, r_P_piece_48, r_P_piece_51, r_P_piece_52, r_P_piece_54, r_P_piece_56, r_P_piece_59, r_P_piece_61, r_P_piece_63, r_P_piece_66, r_P_piece_68, r_P_piece_70, r_P_piece_73, r_P_piece_75, r_P_piece_76, r_P_piece_78, r_P_piece_79, r_P_piece_80, r_P_piece_83, r_P_piece_85, r_P_piece_87, r_P_piece_89, r_P_piece_92, r_P_piece_94, r_P_piece_95, r_P_piece_96, r_P_piece_99, r_P_piece_101, r_P_piece_103, r_P_piece_106, r_P_piece_109, r_P_piece_111, cf_ge88, ↓reduceIte, and_self]
  | succ d ih =>
    intro k hk l9
    have h8 : k < 8 := by omega
    refine r_P_piece_30.mpr ?_
    cases hb : bt s k
    · have ih1 := ih (k + 1) (by omega) (some (.inl 0))
      rw [cf_pf_f hb] at ih1
      simp only [r_P_piece_0, r_P_piece_1, r_P_piece_4, r_P_piece_5, r_P_piece_6, r_P_piece_7, r_P_piece_8, r_P_piece_9, r_P_piece_10, r_P_piece_12, r_P_piece_13, r_P_piece_14, r_P_piece_15, r_P_piece_16, r_P_piece_17, r_P_piece_18, r_P_piece_19, r_P_piece_21, r_P_piece_22, r_P_piece_24, r_P_piece_25, r_P_piece_27, r_P_piece_28, r_P_piece_32, r_P_piece_34, r_P_piece_37, r_P_piece_38, r_P_piece_40, r_P_piece_41, r_P_piece_42, r_P_piece_43, r_P_piece_44, r_P_piece_47, r_P_piece_48, r_P_piece_51, r_P_piece_52, r_P_piece_54, r_P_piece_56, r_P_piece_59, r_P_piece_61, r_P_piece_63, r_P_piece_66, r_P_piece_68, r_P_piece_70, r_P_piece_73, r_P_piece_75, r_P_piece_76, r_P_piece_78, r_P_piece_79, r_P_piece_80, r_P_piece_83, r_P_piece_85, r_P_piece_87, r_P_piece_89, r_P_piece_92, r_P_piece_94, r_P_piece_95, r_P_piece_96, r_P_piece_99, r_P_piece_101, r_P_piece_103, r_P_piece_106, r_P_piece_109, r_P_piece_111, cf_ge8 h8, ↓reduceIte, nI_1, bt_e1 (show k < 32 by omega), hb, reduceCtorEq, not_false_eq_true]
      exact ih1
    · have ih1 := ih (k + 1) (by omega) (some (.inl 1))
      rw [cf_pf_t hb] at ih1
      simp only [r_P_piece_0, r_P_piece_1, r_P_piece_4, r_P_piece_5, r_P_piece_6, r_P_piece_7, r_P_piece_8, r_P_piece_9, r_P_piece_10, r_P_piece_12, r_P_piece_13, r_P_piece_14, r_P_piece_15, r_P_piece_16, r_P_piece_17, r_P_piece_18, r_P_piece_19, r_P_piece_21, r_P_piece_22, r_P_piece_24, r_P_piece_25, r_P_piece_27, r_P_piece_28, r_P_piece_32, r_P_piece_34, r_P_piece_37, r_P_piece_38, r_P_piece_40, r_P_piece_41, r_P_piece_42, r_P_piece_43, r_P_piece_44, r_P_piece_47, r_P_piece_48, r_P_piece_51, r_P_piece_52, r_P_piece_54, r_P_piece_56, r_P_piece_59, r_P_piece_61, r_P_piece_63, r_P_piece_66, r_P_piece_68, r_P_piece_70, r_P_piece_73, r_P_piece_75, r_P_piece_76, r_P_piece_78, r_P_piece_79, r_P_piece_80, r_P_piece_83, r_P_piece_85, r_P_piece_87, r_P_piece_89, r_P_piece_92, r_P_piece_94, r_P_piece_95, r_P_piece_96, r_P_piece_99, r_P_piece_101, r_P_piece_103, r_P_piece_106, r_P_piece_109, r_P_piece_111, cf_ge8 h8, ↓reduceIte, nI_1, bt_e1 (show k < 32 by omega), hb, not_true_eq_false, cf_q_0_1, cf_q_0_2, cf_q_0_3, cf_q_0_4, cf_q_0_5, cf_q_0_6, cf_q_0_7, cf_q_0_8, cf_q_0_9, cf_q_1_0, cf_q_1_2, cf_q_1_3, cf_q_1_4, cf_q_1_5, cf_q_1_6, cf_q_1_7, cf_q_1_8, cf_q_1_9, cf_q_2_0, cf_q_2_1, cf_q_2_3, cf_q_2_4, cf_q_2_5, cf_q_2_6, cf_q_2_7, cf_q_2_8, cf_q_2_9, cf_q_3_0, cf_q_3_1, cf_q_3_2, cf_q_3_4, cf_q_3_5, cf_q_3_6, cf_q_3_7, cf_q_3_8, cf_q_3_9, cf_q_4_0, cf_q_4_1, cf_q_4_2, cf_q_4_3, cf_q_4_5, cf_q_4_6, cf_q_4_7, cf_q_4_8, cf_q_4_9, cf_q_5_0, cf_q_5_1, cf_q_5_2, cf_q_5_3, cf_q_5_4, cf_q_5_6, cf_q_5_7, cf_q_5_8, cf_q_5_9, cf_q_6_0, cf_q_6_1, cf_q_6_2, cf_q_6_3, cf_q_6_4, cf_q_6_5, cf_q_6_7, cf_q_6_8, cf_q_6_9, cf_q_7_0, cf_q_7_1, cf_q_7_2, cf_q_7_3, cf_q_7_4, cf_q_7_5, cf_q_7_6, cf_q_7_8, cf_q_7_9, cf_q_8_0, cf_q_8_1, cf_q_8_2, cf_q_8_3, cf_q_8_4, cf_q_8_5, cf_q_8_6, cf_q_8_7, cf_q_8_9, cf_q_9_0, cf_q_9_1, cf_q_9_2, cf_q_9_3, cf_q_9_4, cf_q_9_5, cf_q_9_6, cf_q_9_7, cf_q_9_8]
      by_cases h1 : (cf_pf s fr to k).2 < fr
      · simp only [h1, true_or, ↓reduceIte] at ih1 ⊢
        exact ih1
      · by_cases h2 : to ≤ (cf_pf s fr to k).2
        · simp only [h1, h2, or_true, ↓reduceIte] at ih1 ⊢
          exact ih1
        · simp only [h1, h2, or_self, ↓reduceIte] at ih1 ⊢
          exact ih1
theorem sp_P_piece {w : cf_Wd} {s i n : Int32} (hs : cf_m14 s) (hn : (!(n == 0)) = true) : F_P_piece [.inl s, .inl i, .inl n] w = some (some (.inl (cf_pc s i n)), w) := by
  refine cf_is (e_P_piece ?_)
  simp only [r_P_piece_0, c_P_piece_1 (sp_P_bits hs), r_P_piece_4, r_P_piece_5, r_P_piece_6, r_P_piece_7, r_P_piece_8, r_P_piece_9, r_P_piece_10, r_P_piece_12, r_P_piece_13, r_P_piece_14, r_P_piece_15, r_P_piece_16, r_P_piece_17, r_P_piece_18, r_P_piece_19, r_P_piece_21, r_P_piece_22, r_P_piece_24, r_P_piece_25, r_P_piece_27, r_P_piece_28, r_P_piece_32, r_P_piece_34, r_P_piece_37, r_P_piece_38, r_P_piece_40, r_P_piece_41, r_P_piece_42, r_P_piece_43, r_P_piece_44, r_P_piece_47, r_P_piece_48, r_P_piece_51, r_P_piece_52, r_P_piece_54, r_P_piece_56, r_P_piece_59, r_P_piece_61, r_P_piece_63, r_P_piece_66, r_P_piece_68, r_P_piece_70, r_P_piece_73, r_P_piece_75, r_P_piece_76, r_P_piece_78, r_P_piece_79, r_P_piece_80, r_P_piece_83, r_P_piece_85, r_P_piece_87, r_P_piece_89, r_P_piece_92, r_P_piece_94, r_P_piece_95, r_P_piece_96, r_P_piece_99, r_P_piece_101, r_P_piece_103, r_P_piece_106, r_P_piece_109, r_P_piece_111, hn, true_and]
  exact lp_P_piece 8 0 (by omega) none
theorem cf_nz {n : Nat} (h0 : 0 < n) (h : n < 2 ^ 31) : (!(nI n == 0)) = true := by
  have := nI_ne0 h0 h
  simp [this]
/-! the first piece, or rest, that is not harmless, from i on, d left -/
def cf_ff (V : Int32 → Int32) (s n : Int32) (rest : Bool) : Nat → Nat → Option Nat
  | 0, _ => none
  | d + 1, i => if V (1000 + cf_sn s n rest (nI i)) = 0 ∨ V (1000 + cf_sn s n rest (nI i)) = 2 then some i else cf_ff V s n rest d (i + 1)
theorem cf_ff_i {V : Int32 → Int32} {s n : Int32} {rest : Bool} : ∀ d i j, cf_ff V s n rest d i = some j → (i ≤ j ∧ j < i + d) ∧ (V (1000 + cf_sn s n rest (nI j)) = 0 ∨ V (1000 + cf_sn s n rest (nI j)) = 2) := by
  intro d
  induction d with
  | zero => intro i j h; cases h
  | succ d ih =>
    intro i j h
    by_cases h1 : V (1000 + cf_sn s n rest (nI i)) = 0 ∨ V (1000 + cf_sn s n rest (nI i)) = 2
    · rw [show cf_ff V s n rest (d + 1) i = some i from if_pos h1] at h
      have e := Option.some.inj h
      subst e
      exact ⟨⟨by omega, by omega⟩, h1⟩
    · rw [show cf_ff V s n rest (d + 1) i = cf_ff V s n rest d (i + 1) from if_neg h1] at h
      obtain ⟨⟨a, b⟩, c⟩ := ih (i + 1) j h
      exact ⟨⟨by omega, by omega⟩, c⟩
/-- the class's search for it: the lines, 0 if there are none -/
theorem lp_R_firstNotHarmless {w : cf_Wd} {V : Int32 → Int32} {n z : Nat} {rest : Bool} (hn0 : 0 < n) (hn : n < 2 ^ 31) (hp : w 11 2 = nI n) (hz : z = cf_pw (w 11 1)) (hV : ∀ i, i < n → ∃ t, t < 256 ∧ cf_sn (w 11 1) (nI n) rest (nI i) = nI t ∧ w 12 t = V (1000 + nI t)) : ∀ d i, i + d = n → ∀ l4 l5, cf_wp T_R_firstNotHarmless (2, [some (.inr 11), some (.inl (cf_b rest)), some (.inl (nI z)), some (.inl (nI i)), l4, l5], [], w) (cf_qi (fun x w1 => x = (match cf_ff V (w 11 1) (nI n) rest d i with
    | some j => cf_sn (w 11 1) (nI n) rest (nI j)
    | none => 0) ∧ w1 = w)) := by
  intro d
  induction d with
  | zero =>
    intro i hi l4 l5
    have e : i = n := by omega
    subst e
    have hc : (nI i ≤ nI i) = True := eq_true (nI_le (Nat.le_refl i) hn)
    refine r_R_firstNotHarmless_2.mpr ?_
    simp only [r_R_firstNotHarmless_0, r_R_firstNotHarmless_1, r_R_firstNotHarmless_3, r_R_firstNotHarmless_4, r_R_firstNotHarmless_7, r_R_firstNotHarmless_10, r_R_firstNotHarmless_11, r_R_firstNotHarmless_12, r_R_firstNotHarmless_13, r_R_firstNotHarmless_14, r_R_firstNotHarmless_15, r_R_firstNotHarmless_18, r_R_firstNotHarmless_19, r_R_firstNotHarmless_20, r_R_firstNotHarmless_21, r_R_firstNotHarmless_22, r_R_firstNotHarmless_23, r_R_firstNotHarmless_24, r_R_firstNotHarmless_25, r_R_firstNotHarmless_28, r_R_firstNotHarmless_29, r_R_firstNotHarmless_32, r_R_firstNotHarmless_34, r_R_firstNotHarmless_35, r_R_firstNotHarmless_38, r_R_firstNotHarmless_39, r_R_firstNotHarmless_42, r_R_firstNotHarmless_44, r_R_firstNotHarmless_45, r_R_firstNotHarmless_46, r_R_firstNotHarmless_47, r_R_firstNotHarmless_50, r_R_firstNotHarmless_52, r_R_firstNotHarmless_54, r_R_firstNotHarmless_55, r_R_firstNotHarmless_58, r_R_firstNotHarmless_60, r_R_firstNotHarmless_61, r_R_firstNotHarmless_64, r_R_firstNotHarmless_65, r_R_firstNotHarmless_68, r_R_firstNotHarmless_70, r_R_firstNotHarmless_71, r_R_firstNotHarmless_72, r_R_firstNotHarmless_75, r_R_firstNotHarmless_77, r_R_firstNotHarmless_78, r_R_firstNotHarmless_81, r_R_firstNotHarmless_84, r_R_firstNotHarmless_85, hp, hc, ↓reduceIte]
    exact ⟨rfl, by simp⟩
  | succ d ih =>
    intro i hi l4 l5
    have hc : (nI n ≤ nI i) = False := eq_false (nI_ge (by omega) hn)
    obtain ⟨t, ht, e, hv⟩ := hV i (by omega)
    have hpc : (cf_pf (w 11 1) (nI i * nI z / nI n) ((nI i + 1) * nI z / nI n) 8).1 = cf_pc (w 11 1) (nI i) (nI n) := by rw [hz]; rfl
    have ih1 := ih (i + 1) (by omega)
    refine r_R_firstNotHarmless_2.mpr ?_
    have fin : ∀ L, cf_wp T_R_firstNotHarmless (54, [some (.inr 11), some (.inl (cf_b rest)), some (.inl (nI z)), some (.inl (nI i)), L, some (.inl (cf_sn (w 11 1) (nI n) rest (nI i)))], [], w) (cf_qi (fun x w1 => x = (match cf_ff V (w 11 1) (nI n) rest (d + 1) i with
        | some j => cf_sn (w 11 1) (nI n) rest (nI j)
        | none => 0) ∧ w1 = w)) := by
      intro L
      rw [e]
      simp only [r_R_firstNotHarmless_0, r_R_firstNotHarmless_1, r_R_firstNotHarmless_3, r_R_firstNotHarmless_4, r_R_firstNotHarmless_7, r_R_firstNotHarmless_10, r_R_firstNotHarmless_11, r_R_firstNotHarmless_12, r_R_firstNotHarmless_13, r_R_firstNotHarmless_14, r_R_firstNotHarmless_15, r_R_firstNotHarmless_18, r_R_firstNotHarmless_19, r_R_firstNotHarmless_20, r_R_firstNotHarmless_21, r_R_firstNotHarmless_22, r_R_firstNotHarmless_23, r_R_firstNotHarmless_24, r_R_firstNotHarmless_25, r_R_firstNotHarmless_28, r_R_firstNotHarmless_29, r_R_firstNotHarmless_32, r_R_firstNotHarmless_34, r_R_firstNotHarmless_35, r_R_firstNotHarmless_38, r_R_firstNotHarmless_39, r_R_firstNotHarmless_42, r_R_firstNotHarmless_44, r_R_firstNotHarmless_45, r_R_firstNotHarmless_46, r_R_firstNotHarmless_47, r_R_firstNotHarmless_50, r_R_firstNotHarmless_52, r_R_firstNotHarmless_54, r_R_firstNotHarmless_55, r_R_firstNotHarmless_58, r_R_firstNotHarmless_60, r_R_firstNotHarmless_61, r_R_firstNotHarmless_64, r_R_firstNotHarmless_65, r_R_firstNotHarmless_68, r_R_firstNotHarmless_70, r_R_firstNotHarmless_71, r_R_firstNotHarmless_72, r_R_firstNotHarmless_75, r_R_firstNotHarmless_77, r_R_firstNotHarmless_78, r_R_firstNotHarmless_81, r_R_firstNotHarmless_84, r_R_firstNotHarmless_85, cf_in_nI ht (by decide), nI_clamp (show t < 2 ^ 31 by omega), true_and, hv, nI_1]
      by_cases h0 : V (1000 + nI t) = 0
      · rw [show cf_ff V (w 11 1) (nI n) rest (d + 1) i = some i from if_pos (by rw [e]; exact Or.inl h0), if_pos h0]
        exact ⟨e.symm, by simp⟩
      · rw [if_neg h0]
        by_cases h2 : V (1000 + nI t) = 2
        · rw [show cf_ff V (w 11 1) (nI n) rest (d + 1) i = some i from if_pos (by rw [e]; exact Or.inr h2), if_neg (fun x => x h2)]
          exact ⟨e.symm, by simp⟩
        · rw [show cf_ff V (w 11 1) (nI n) rest (d + 1) i = cf_ff V (w 11 1) (nI n) rest d (i + 1) from if_neg (by rw [e]; exact fun x => x.elim h0 h2), if_pos h2]
          exact ih1 _ _
    cases rest
    · simp only [r_R_firstNotHarmless_0, r_R_firstNotHarmless_1, r_R_firstNotHarmless_3, r_R_firstNotHarmless_4, r_R_firstNotHarmless_7, r_R_firstNotHarmless_10, r_R_firstNotHarmless_11, r_R_firstNotHarmless_12, r_R_firstNotHarmless_13, r_R_firstNotHarmless_14, r_R_firstNotHarmless_15, r_R_firstNotHarmless_18, r_R_firstNotHarmless_19, r_R_firstNotHarmless_20, r_R_firstNotHarmless_21, r_R_firstNotHarmless_22, r_R_firstNotHarmless_23, r_R_firstNotHarmless_24, r_R_firstNotHarmless_25, r_R_firstNotHarmless_28, c_R_firstNotHarmless_29 (sp_R_placesOfSet), r_R_firstNotHarmless_32, r_R_firstNotHarmless_34, r_R_firstNotHarmless_35, r_R_firstNotHarmless_38, r_R_firstNotHarmless_39, r_R_firstNotHarmless_42, r_R_firstNotHarmless_44, r_R_firstNotHarmless_45, r_R_firstNotHarmless_46, r_R_firstNotHarmless_47, r_R_firstNotHarmless_50, r_R_firstNotHarmless_52, r_R_firstNotHarmless_55, r_R_firstNotHarmless_58, r_R_firstNotHarmless_60, r_R_firstNotHarmless_61, r_R_firstNotHarmless_64, r_R_firstNotHarmless_65, r_R_firstNotHarmless_68, r_R_firstNotHarmless_70, r_R_firstNotHarmless_71, r_R_firstNotHarmless_72, r_R_firstNotHarmless_75, r_R_firstNotHarmless_77, r_R_firstNotHarmless_78, r_R_firstNotHarmless_81, r_R_firstNotHarmless_84, r_R_firstNotHarmless_85, hp, hc, ↓reduceIte, cf_nz hn0 hn, true_and, hpc, cf_b_e0]
      exact fin _
    · simp only [r_R_firstNotHarmless_0, r_R_firstNotHarmless_1, r_R_firstNotHarmless_3, r_R_firstNotHarmless_4, r_R_firstNotHarmless_7, r_R_firstNotHarmless_10, r_R_firstNotHarmless_11, r_R_firstNotHarmless_12, r_R_firstNotHarmless_13, r_R_firstNotHarmless_14, r_R_firstNotHarmless_15, r_R_firstNotHarmless_18, r_R_firstNotHarmless_19, r_R_firstNotHarmless_20, r_R_firstNotHarmless_21, r_R_firstNotHarmless_22, r_R_firstNotHarmless_23, r_R_firstNotHarmless_24, r_R_firstNotHarmless_25, r_R_firstNotHarmless_28, c_R_firstNotHarmless_29 (sp_R_placesOfSet), r_R_firstNotHarmless_32, r_R_firstNotHarmless_34, r_R_firstNotHarmless_35, r_R_firstNotHarmless_38, r_R_firstNotHarmless_39, r_R_firstNotHarmless_42, r_R_firstNotHarmless_44, r_R_firstNotHarmless_45, r_R_firstNotHarmless_46, r_R_firstNotHarmless_47, r_R_firstNotHarmless_50, r_R_firstNotHarmless_52, r_R_firstNotHarmless_55, r_R_firstNotHarmless_58, r_R_firstNotHarmless_60, r_R_firstNotHarmless_61, r_R_firstNotHarmless_64, r_R_firstNotHarmless_65, r_R_firstNotHarmless_68, r_R_firstNotHarmless_70, r_R_firstNotHarmless_71, r_R_firstNotHarmless_72, r_R_firstNotHarmless_75, r_R_firstNotHarmless_77, r_R_firstNotHarmless_78, r_R_firstNotHarmless_81, r_R_firstNotHarmless_84, r_R_firstNotHarmless_85, hp, hc, ↓reduceIte, cf_nz hn0 hn, true_and, hpc, cf_b_e0, reduceCtorEq]
      exact fin _
theorem sp_R_firstNotHarmless {w : cf_Wd} {V : Int32 → Int32} {n z : Nat} {rest : Bool} (hn0 : 0 < n) (hn : n < 2 ^ 31) (hp : w 11 2 = nI n) (hz : z = cf_pw (w 11 1)) (hV : ∀ i, i < n → ∃ t, t < 256 ∧ cf_sn (w 11 1) (nI n) rest (nI i) = nI t ∧ w 12 t = V (1000 + nI t)) : F_R_firstNotHarmless [.inr 11, .inl (cf_b rest), .inl (nI z)] w = some (some (.inl (match cf_ff V (w 11 1) (nI n) rest n 0 with
    | some j => cf_sn (w 11 1) (nI n) rest (nI j)
    | none => 0)), w) := by
  refine cf_is (e_R_firstNotHarmless ?_)
  simp only [r_R_firstNotHarmless_0, r_R_firstNotHarmless_1]
  have h := lp_R_firstNotHarmless hn0 hn hp hz hV n 0 (by omega) none none
  rw [nI_0] at h
  exact h
/-! what pieces are like: a set of 2 to 8 lines in n pieces; the same in natural numbers -/
def cf_qf (s fr to : Nat) : Nat → Nat × Nat
  | 0 => (0, 0)
  | k + 1 => match Nat.testBit s k with
    | true => ((match (Nat.blt (cf_qf s fr to k).2 fr || Nat.ble to (cf_qf s fr to k).2) with
      | true => (cf_qf s fr to k).1
      | false => Nat.lor (cf_qf s fr to k).1 (Nat.pow 2 k)), Nat.add (cf_qf s fr to k).2 1)
    | false => cf_qf s fr to k
theorem cf_nor (a b : Nat) : nI a ||| nI b = nI (a ||| b) := by
  apply Int32.toBitVec_inj.mp
  rw [Int32.toBitVec_or]
  show BitVec.ofNat 32 a ||| BitVec.ofNat 32 b = BitVec.ofNat 32 (a ||| b)
  apply BitVec.eq_of_toNat_eq
  simp [BitVec.toNat_or, BitVec.toNat_ofNat, Nat.or_mod_two_pow]
theorem cf_nxor (a b : Nat) : nI a ^^^ nI b = nI (a ^^^ b) := by
  apply Int32.toBitVec_inj.mp
  rw [Int32.toBitVec_xor]
  show BitVec.ofNat 32 a ^^^ BitVec.ofNat 32 b = BitVec.ofNat 32 (a ^^^ b)
  apply BitVec.eq_of_toNat_eq
  simp [BitVec.toNat_xor, BitVec.toNat_ofNat, Nat.xor_mod_two_pow]
theorem cf_sh8 : ∀ k, k < 8 → (1 : Int32) <<< (nI k &&& 31) = nI (2 ^ k) := by decide +kernel
theorem cf_bt_n {s k : Nat} (hs : s < 2 ^ 32) : bt (nI s) k = s.testBit k := by
  show (nI s).toBitVec.toNat.testBit k = _
  rw [cf_tn hs]
theorem cf_pf_q {s fr to : Nat} (hs : s < 2 ^ 32) (hf : fr < 2 ^ 31) (ht : to < 2 ^ 31) : ∀ k, k ≤ 8 → (cf_qf s fr to k).2 ≤ k ∧ cf_pf (nI s) (nI fr) (nI to) k = (nI (cf_qf s fr to k).1, nI (cf_qf s fr to k).2) := by
  intro k
  induction k with
  | zero => intro _; exact ⟨Nat.le_refl 0, rfl⟩
  | succ k ih =>
    intro hk
    obtain ⟨ih1, ih2⟩ := ih (by omega)
    cases hb : s.testBit k
    · have e : cf_qf s fr to (k + 1) = cf_qf s fr to k := by simp only [cf_qf, hb]
      rw [e, cf_pf_f (by rw [cf_bt_n hs]; exact hb), ih2]
      exact ⟨by omega, rfl⟩
    · have e : cf_qf s fr to (k + 1) = ((match (Nat.blt (cf_qf s fr to k).2 fr || Nat.ble to (cf_qf s fr to k).2) with
        | true => (cf_qf s fr to k).1
        | false => Nat.lor (cf_qf s fr to k).1 (Nat.pow 2 k)), Nat.add (cf_qf s fr to k).2 1) := by simp only [cf_qf, hb]
      rw [e, cf_pf_t (by rw [cf_bt_n hs]; exact hb), ih2]
      refine ⟨by show (cf_qf s fr to k).2 + 1 ≤ k + 1; omega, ?_⟩
      generalize cf_qf s fr to k = q at *
      obtain ⟨g, p⟩ := q
      have hp : p ≤ k := ih1
      have e1 : (nI p < nI fr) = (p < fr) := propext (nI_ltI (by omega) hf)
      have e2 : (nI to ≤ nI p) = (to ≤ p) := propext (nI_leI ht (by omega))
      simp only [e1, e2, nI_1, cf_sh8 k (by omega), cf_nor]
      by_cases h1 : p < fr ∨ to ≤ p
      · have h2 : (Nat.blt p fr || Nat.ble to p) = true := by
          rw [Bool.or_eq_true]
          rcases h1 with h1 | h1
          · exact Or.inl (Nat.ble_eq_true_of_le h1)
          · exact Or.inr (Nat.ble_eq_true_of_le h1)
        rw [if_pos h1, h2]
      · have h2 : (Nat.blt p fr || Nat.ble to p) = false := by
          rw [Bool.or_eq_false_iff]
          refine ⟨?_, ?_⟩
          · cases hx : Nat.blt p fr
            · rfl
            · exact absurd (Or.inl (Nat.le_of_ble_eq_true hx)) h1
          · cases hx : Nat.ble to p
            · rfl
            · exact absurd (Or.inr (Nat.le_of_ble_eq_true hx)) h1
        rw [if_neg h1, h2]
        rfl
def cf_qc (s i n : Nat) : Nat := (cf_qf s (Nat.div (Nat.mul i (cf_pop s)) n) (Nat.div (Nat.mul (Nat.add i 1) (cf_pop s)) n) 8).1
def cf_qn (s n : Nat) (rest : Bool) (i : Nat) : Nat := match rest with
  | true => Nat.xor s (Nat.land s (cf_qc s i n))
  | false => cf_qc s i n
theorem cf_nmul (a b : Nat) : nI a * nI b = nI (a * b) := by
  unfold nI
  rw [Int32.ofNat_mul]
theorem cf_andn (x y : Int32) : x &&& (y ^^^ -1) = x ^^^ (x &&& y) := by
  apply b_ext
  intro i hi
  rw [b_and, b_xor, b_xor, b_and, b_m1 i hi]
  cases bt x i <;> cases bt y i <;> rfl
theorem cf_pc_n {s n i : Nat} (hs : s < 256) (hn0 : 0 < n) (hn : n < 100) (hi : i < 100) : cf_pc (nI s) (nI i) (nI n) = nI (cf_qc s i n) := by
  have hp := cf_pn_le 14 s
  have e1 : cf_pw (nI s) = cf_pop s := by
    unfold cf_pw
    rw [cf_tn (by omega)]
  have hp14 : cf_pop s ≤ 14 := hp
  have m1 : i * cf_pop s ≤ 100 * 14 := Nat.mul_le_mul (by omega) hp14
  have m2 : (i + 1) * cf_pop s ≤ 100 * 14 := Nat.mul_le_mul (by omega) hp14
  have d1 : i * cf_pop s / n ≤ i * cf_pop s := Nat.div_le_self _ _
  have d2 : (i + 1) * cf_pop s / n ≤ (i + 1) * cf_pop s := Nat.div_le_self _ _
  unfold cf_pc
  rw [e1, nI_1, cf_nmul, cf_nmul, pk_div (by omega) hn0 (by omega), pk_div (by omega) hn0 (by omega), (cf_pf_q (by omega) (by omega) (by omega) 8 (Nat.le_refl 8)).2]
  rfl
theorem cf_sn_n {s n i : Nat} (hs : s < 256) (hn0 : 0 < n) (hn : n < 100) (hi : i < 100) (rest : Bool) : cf_sn (nI s) (nI n) rest (nI i) = nI (cf_qn s n rest i) := by
  unfold cf_sn
  rw [cf_pc_n hs hn0 hn hi]
  cases rest
  · rw [if_neg (by decide)]
    rfl
  · rw [if_pos rfl, cf_andn, cf_nand, cf_nxor]
    rfl
def cf_pk2 (s n i : Nat) (rest : Bool) : Bool := Nat.blt (cf_qn s n rest i) 256 && (Nat.blt 0 (cf_qn s n rest i) && (Nat.blt (cf_pop (cf_qn s n rest i)) (cf_pop s) && (match rest with
  | true => Nat.ble n (Nat.add (cf_pop (cf_qn s n rest i)) 1)
  | false => true)))
def cf_pchk (a : Nat) : Bool := cf_all (fun b => cf_all (fun n => match (Nat.ble 2 n && Nat.ble n (cf_pop (Nat.add (Nat.mul 32 a) b))) with
  | true => cf_all (fun i => cf_pk2 (Nat.add (Nat.mul 32 a) b) n i false && cf_pk2 (Nat.add (Nat.mul 32 a) b) n i true) n
  | false => true) 9) 32
theorem cf_pchk0 : cf_pchk 0 = true := by decide +kernel
theorem cf_pchk1 : cf_pchk 1 = true := by decide +kernel
theorem cf_pchk2 : cf_pchk 2 = true := by decide +kernel
theorem cf_pchk3 : cf_pchk 3 = true := by decide +kernel
theorem cf_pchk4 : cf_pchk 4 = true := by decide +kernel
theorem cf_pchk5 : cf_pchk 5 = true := by decide +kernel
theorem cf_pchk6 : cf_pchk 6 = true := by decide +kernel
theorem cf_pchk7 : cf_pchk 7 = true := by decide +kernel
theorem cf_pop8 : ∀ s, s < 256 → cf_pop s ≤ 8 := by decide +kernel
theorem cf_pKs {s n i : Nat} (hs : s < 256) (h2 : 2 ≤ n) (hn : n ≤ cf_pop s) (hi : i < n) (rest : Bool) : ∃ t, t < 256 ∧ 0 < t ∧ cf_sn (nI s) (nI n) rest (nI i) = nI t ∧ cf_pop t < cf_pop s ∧ (rest = true → n ≤ cf_pop t + 1) := by
  have h8 := cf_pop8 s hs
  have hk : ∀ k, k < 8 → cf_pchk k = true := by
    intro k hk
    match k, hk with
    | 0, _ => exact cf_pchk0
    | 1, _ => exact cf_pchk1
    | 2, _ => exact cf_pchk2
    | 3, _ => exact cf_pchk3
    | 4, _ => exact cf_pchk4
    | 5, _ => exact cf_pchk5
    | 6, _ => exact cf_pchk6
    | 7, _ => exact cf_pchk7
    | n + 8, hk => exact absurd hk (by omega)
  have h3 := cf_all_i 9 (cf_all_i 32 (hk (s / 32) (by omega)) (s % 32) (by omega)) n (by omega)
  have e : Nat.add (Nat.mul 32 (s / 32)) (s % 32) = s := by
    show 32 * (s / 32) + s % 32 = s
    omega
  simp only [e] at h3
  have g1 : (Nat.ble 2 n && Nat.ble n (cf_pop s)) = true := by
    rw [Bool.and_eq_true]
    exact ⟨Nat.ble_eq_true_of_le h2, Nat.ble_eq_true_of_le hn⟩
  rw [g1] at h3
  have h4 := cf_all_i n h3 i hi
  rw [Bool.and_eq_true] at h4
  have h5 : cf_pk2 s n i rest = true := by
    cases rest
    · exact h4.1
    · exact h4.2
  unfold cf_pk2 at h5
  rw [Bool.and_eq_true, Bool.and_eq_true, Bool.and_eq_true] at h5
  obtain ⟨k1, k2, k3, k4⟩ := h5
  refine ⟨cf_qn s n rest i, Nat.le_of_ble_eq_true k1, Nat.le_of_ble_eq_true k2, cf_sn_n hs (by omega) (by omega) (by omega) rest, Nat.le_of_ble_eq_true k3, fun hr => ?_⟩
  subst hr
  exact Nat.le_of_ble_eq_true k4
/-! reducing: f rounds left, the set s in n pieces: the test that is wanted (-1: none), and the set -/
def cf_rd (V : Int32 → Int32) : Nat → Nat → Nat → Int32 × Int32
  | 0, s, _ => (-1, nI s)
  | f + 1, s, n => if cf_pop s ≤ 1 then (-1, nI s) else match cf_ff V (nI s) (nI n) false n 0 with
    | some j => if V (1000 + cf_sn (nI s) (nI n) false (nI j)) = 0 then (cf_sn (nI s) (nI n) false (nI j), nI s) else cf_rd V f (cf_sn (nI s) (nI n) false (nI j)).toBitVec.toNat 2
    | none => match cf_ff V (nI s) (nI n) true n 0 with
      | some j => if V (1000 + cf_sn (nI s) (nI n) true (nI j)) = 0 then (cf_sn (nI s) (nI n) true (nI j), nI s) else cf_rd V f (cf_sn (nI s) (nI n) true (nI j)).toBitVec.toNat (max (n - 1) 2)
      | none => if cf_pop s ≤ n then (-1, nI s) else cf_rd V f s (min (2 * n) (cf_pop s))
