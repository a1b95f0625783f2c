/-! the reference: the middle is the least place among the best -/
def cf_Bst (el : Nat → Bool) (lz : Nat → Nat) (lo hi : Nat) (b m : Int32) : Prop :=
  (b = -1 ∧ m = -1 ∧ ∀ c, lo ≤ c → c < hi → el c = false) ∨
  ∃ c, lo ≤ c ∧ c < hi ∧ el c = true ∧ b = nI c ∧ m = nI (lz c) ∧ (∀ d, lo ≤ d → d < hi → el d = true → lz d ≤ lz c) ∧ ∀ d, lo ≤ d → d < c → el d = true → lz d < lz c
theorem cf_ds_b {el : Nat → Bool} {lz : Nat → Nat} {hi : Nat} (hlz : ∀ c, lz c < 2 ^ 31) (hh : hi < 2 ^ 31) : ∀ k b m, k ≤ hi → cf_Bst el lz k hi b m → cf_Bst el lz 0 hi (cf_ds el lz k (b, m)).1 (cf_ds el lz k (b, m)).2 := by
  intro k
  induction k with
  | zero => intro b m _ h; exact h
  | succ k ih =>
    intro b m hk h
    cases he : el k
    · rw [cf_ds_f he]
      refine ih b m (by omega) ?_
      rcases h with ⟨h1, h2, h3⟩ | ⟨c, c1, c2, c3, c4, c5, c6, c7⟩
      · refine Or.inl ⟨h1, h2, fun c hc1 hc2 => ?_⟩
        by_cases e : c = k
        · subst e; exact he
        · exact h3 c (by omega) hc2
      · refine Or.inr ⟨c, by omega, c2, c3, c4, c5, fun d hd1 hd2 hd3 => ?_, fun d hd1 hd2 hd3 => ?_⟩
        · by_cases e : d = k
          · subst e; rw [he] at hd3; cases hd3
          · exact c6 d (by omega) hd2 hd3
        · by_cases e : d = k
          · subst e; rw [he] at hd3; cases hd3
          · exact c7 d (by omega) hd2 hd3
    · rw [cf_ds_t he]
      rcases h with ⟨h1, h2, h3⟩ | ⟨c, c1, c2, c3, c4, c5, c6, c7⟩
      · subst h1
        subst h2
        have a1 : ¬ nI (lz k) < -1 := fun h => by
          have := Int32.lt_iff_toInt_lt.mp h
          rw [nI_toInt (hlz k)] at this
          have e : (-1 : Int32).toInt = -1 := by decide +kernel
          omega
        have a2 : ¬ nI (lz k) ≤ -1 := fun h => by
          have := Int32.le_iff_toInt_le.mp h
          rw [nI_toInt (hlz k)] at this
          have e : (-1 : Int32).toInt = -1 := by decide +kernel
          omega
        rw [if_neg a1, if_neg a2]
        refine ih _ _ (by omega) (Or.inr ⟨k, Nat.le_refl k, by omega, he, rfl, rfl, fun d hd1 hd2 hd3 => ?_, fun d hd1 hd2 _ => by omega⟩)
        by_cases e : d = k
        · subst e; exact Nat.le_refl _
        · have := h3 d (by omega) hd2
          rw [this] at hd3
          cases hd3
      · subst c4
        subst c5
        by_cases h1 : lz k < lz c
        · rw [if_pos (nI_lt h1 (hlz c)), if_pos (nI_le (by omega) (hlz c))]
          refine ih _ _ (by omega) (Or.inr ⟨c, by omega, c2, c3, rfl, rfl, fun d hd1 hd2 hd3 => ?_, fun d hd1 hd2 hd3 => ?_⟩)
          · by_cases e : d = k
            · subst e; omega
            · exact c6 d (by omega) hd2 hd3
          · by_cases e : d = k
            · subst e; exact h1
            · exact c7 d (by omega) hd2 hd3
        · rw [if_neg (nI_nlt (by omega) (hlz k))]
          have em : (if nI (lz k) ≤ nI (lz c) then nI (lz c) else nI (lz k)) = nI (lz k) := by
            by_cases h2 : lz k = lz c
            · rw [h2, if_pos (nI_le (Nat.le_refl _) (hlz c))]
            · rw [if_neg (nI_ge (by omega) (hlz k))]
          rw [em]
          refine ih _ _ (by omega) (Or.inr ⟨k, Nat.le_refl k, by omega, he, rfl, rfl, fun d hd1 hd2 hd3 => ?_, fun d hd1 hd2 _ => by omega⟩)
          by_cases e : d = k
          · subst e; exact Nat.le_refl _
          · have := c6 d (by omega) hd2 hd3
            omega
theorem cf_Bst_fn {el : Nat → Bool} {lz : Nat → Nat} {hi : Nat} {b m b2 m2 : Int32} (h : cf_Bst el lz 0 hi b m) (k : cf_Bst el lz 0 hi b2 m2) : b = b2 := by
  rcases h with ⟨h1, _, h3⟩ | ⟨c, c1, c2, c3, c4, c5, c6, c7⟩
  · rcases k with ⟨k1, _, _⟩ | ⟨d, d1, d2, d3, _⟩
    · rw [h1, k1]
    · have := h3 d d1 d2
      rw [this] at d3
      cases d3
  · rcases k with ⟨_, _, k3⟩ | ⟨d, d1, d2, d3, d4, d5, d6, d7⟩
    · have := k3 c c1 c2
      rw [this] at c3
      cases c3
    · have e : c = d := by
        have g1 := c6 d d1 d2 d3
        have g2 := d6 c c1 c2 c3
        by_cases hcd : c < d
        · have := d7 c c1 hcd c3; omega
        · by_cases hdc : d < c
          · have := c7 d d1 hdc d3; omega
          · omega
      rw [c4, d4, e]
theorem cf_lz14 (A : Nat → Int32) (S : Int32) (c : Nat) : cf_lz A S c < 2 ^ 31 := by
  have := cf_pw_14 S
  unfold cf_lz
  omega
theorem cf_mid_b {A : Nat → Int32} {N : Nat} {S T : Int32} {wo : Nat} (hN : N ≤ 14) : ∃ m, cf_Bst (cf_el S T wo) (cf_lz A S) 0 N (cf_mid A N S T wo) m := ⟨_, cf_ds_b (cf_lz14 A S) (by omega) N (-1) (-1) (Nat.le_refl N) (Or.inl ⟨rfl, rfl, fun c h1 h2 => by omega⟩)⟩
theorem cf_mid_c {A : Nat → Int32} {N : Nat} {S T : Int32} {wo : Nat} (hN : N ≤ 14) : cf_mid A N S T wo = -1 ∨ ∃ c, c < N ∧ cf_mid A N S T wo = nI c ∧ cf_el S T wo c = true := by
  obtain ⟨m, h⟩ := cf_mid_b (A := A) (S := S) (T := T) (wo := wo) hN
  rcases h with ⟨h1, _⟩ | ⟨c, _, c2, c3, c4, _⟩
  · exact Or.inl h1
  · exact Or.inr ⟨c, c2, c4, c3⟩
/-! the reference: halving, f rounds left -/
def cf_hv (A : Nat → Int32) (N : Nat) (V : Int32 → Int32) : Nat → Nat → Int32 → Int32 → Int32 × Int32 × Int32 × Int32
  | 0, _, _, S => (2, -1, S, -1)
  | f + 1, wo, T, S => if cf_mid A N S T wo = -1 then (if S = 1 <<< (nI wo &&& 31) then (3, -1, S, nI wo) else (5, -1, S, -1)) else if V (cf_mid A N S T wo) = 0 then (2, cf_mid A N S T wo, S, -1) else cf_hv A N V f (if V (cf_mid A N S T wo) = 2 then (cf_mid A N S T wo).toNatClampNeg else wo) (T ||| 1 <<< (cf_mid A N S T wo &&& 31)) (if V (cf_mid A N S T wo) = 2 then S &&& A (cf_mid A N S T wo).toNatClampNeg else if V (cf_mid A N S T wo) = 1 then S &&& (A (cf_mid A N S T wo).toNatClampNeg ^^^ -1) else S)
/-- the fields of the reference that its work writes: f' has them, else it is f -/
def cf_fx (f f' : Nat → Int32) (r : Int32 × Int32 × Int32 × Int32) : Prop := f' 18 = r.1 ∧ f' 19 = r.2.1 ∧ f' 20 = r.2.2.1 ∧ f' 21 = r.2.2.2 ∧ ∀ k, k ≠ 18 → k ≠ 19 → k ≠ 20 → k ≠ 21 → f' k = f k
theorem lp_P_halve {w : cf_Wd} {N m : Nat} (hN : N ≤ 14) (hm : m ≤ 600) (hA : ∀ c, c < N → cf_m14 (w 19 c)) {f0 : Nat → Int32} (h0 : f0 0 = nI N) (h11 : f0 11 = nI m) : ∀ fu g wo T f, g + fu = 16 → wo < 14 → cf_m14 (f 20) → cf_fx f0 f (2, -1, f 20, -1) → ∀ l4 l5, cf_wp T_P_halve (46, [some (.inr 15), some (.inl (nI wo)), some (.inl T), some (.inl (nI g)), l4, l5], [], cf_wa w 15 f) (cf_qb (fun x w1 => x = cf_b (decide ((cf_hv (w 19) N (fun t => cf_kn (w 20) (w 21) t m) fu wo T (f 20)).1 = 3)) ∧ ∃ f', w1 = cf_wa w 15 f' ∧ cf_fx f0 f' (cf_hv (w 19) N (fun t => cf_kn (w 20) (w 21) t m) fu wo T (f 20)))) := by
  intro fu
  have e16 : (16 : Int32) = nI 16 := by decide +kernel
  induction fu with
  | zero =>
    intro g wo T f hg hwo hS hf l4 l5
    have e : g = 16 := by omega
    subst e
    have hc : ((16 : Int32) ≤ nI 16) = True := eq_true (by decide +kernel)
    refine r_P_halve_46.mpr ?_
    simp only [r_P_halve_47, r_P_halve_49, hc, ↓reduceIte, r_P_halve_206, r_P_halve_207]
    exact ⟨by simp, by simp [cf_hv, cf_b], f, rfl, hf⟩
  | succ fu ih =>
    intro g wo T f hg hwo hS hf l4 l5
    have hc : ((16 : Int32) ≤ nI g) = False := by
      rw [e16]
      exact eq_false (nI_ge (by omega) (by decide))
    obtain ⟨f18, f19, f20, f21, fr⟩ := hf
    have g0 : f 0 = nI N := (fr 0 (by decide) (by decide) (by decide) (by decide)).trans h0
    have g11 : f 11 = nI m := (fr 11 (by decide) (by decide) (by decide) (by decide)).trans h11
    have hw15 : cf_wa w 15 f 15 = f := cf_wa_s _ _ _
    have hw19 : cf_wa w 15 f 19 = w 19 := cf_wa_n _ _ (by decide)
    have hmid := sp_P_middle (w := cf_wa w 15 f) (T := T) hwo (by rw [hw15]; exact hS) hN (by rw [hw19]; exact hA) (by rw [hw15]; exact g0)
    rw [hw15, hw19] at hmid
    refine r_P_halve_46.mpr ?_
    rcases cf_mid_c (A := w 19) (S := f 20) (T := T) (wo := wo) hN with hb | ⟨c, hcN, hb, hel⟩
    · have hge : ((0 : Int32) ≤ -1) = False := eq_false (by decide)
      rw [hb] at hmid
      by_cases hal : f 20 = 1 <<< (nI wo &&& 31)
      · have ev : cf_hv (w 19) N (fun t => cf_kn (w 20) (w 21) t m) (fu + 1) wo T (f 20) = (3, -1, f 20, nI wo) := by
          simp only [cf_hv]
          rw [if_pos hb, if_pos hal]
        rw [ev]
        simp only [r_P_halve_0, r_P_halve_1, r_P_halve_4, r_P_halve_5, r_P_halve_6, r_P_halve_7, r_P_halve_10, r_P_halve_11, r_P_halve_12, r_P_halve_13, r_P_halve_16, r_P_halve_17, r_P_halve_18, r_P_halve_19, r_P_halve_20, r_P_halve_21, r_P_halve_24, r_P_halve_25, r_P_halve_28, r_P_halve_29, r_P_halve_30, r_P_halve_33, r_P_halve_34, r_P_halve_37, r_P_halve_38, r_P_halve_39, r_P_halve_40, r_P_halve_41, r_P_halve_44, r_P_halve_45, r_P_halve_47, r_P_halve_49, r_P_halve_52, r_P_halve_53, r_P_halve_54, c_P_halve_55 (hmid), r_P_halve_58, r_P_halve_60, r_P_halve_62, r_P_halve_65, r_P_halve_66, r_P_halve_69, r_P_halve_70, r_P_halve_71, r_P_halve_72, r_P_halve_75, r_P_halve_76, r_P_halve_79, r_P_halve_80, r_P_halve_82, r_P_halve_83, r_P_halve_85, r_P_halve_88, r_P_halve_89, r_P_halve_92, r_P_halve_93, r_P_halve_96, r_P_halve_97, r_P_halve_99, r_P_halve_102, r_P_halve_103, r_P_halve_106, r_P_halve_107, r_P_halve_110, r_P_halve_112, r_P_halve_113, r_P_halve_114, r_P_halve_116, r_P_halve_119, r_P_halve_121, r_P_halve_123, r_P_halve_126, r_P_halve_127, r_P_halve_128, r_P_halve_129, r_P_halve_130, r_P_halve_132, r_P_halve_133, r_P_halve_134, r_P_halve_135, r_P_halve_137, r_P_halve_138, r_P_halve_141, r_P_halve_143, r_P_halve_146, r_P_halve_147, r_P_halve_148, r_P_halve_149, r_P_halve_151, r_P_halve_152, r_P_halve_155, r_P_halve_156, r_P_halve_159, r_P_halve_160, r_P_halve_163, r_P_halve_165, r_P_halve_166, r_P_halve_167, r_P_halve_170, r_P_halve_172, r_P_halve_173, r_P_halve_176, r_P_halve_177, r_P_halve_180, r_P_halve_181, r_P_halve_184, r_P_halve_186, r_P_halve_187, r_P_halve_188, r_P_halve_189, r_P_halve_190, r_P_halve_193, r_P_halve_194, r_P_halve_197, r_P_halve_200, r_P_halve_203, r_P_halve_206, r_P_halve_207, hc, hge, cf_wa_s, cf_wa_n, pk_us, pk_un, ne_eq, Nat.reduceEqDiff, not_false_eq_true, reduceCtorEq, cf_wa_wa, ↓reduceIte, hal, not_true_eq_false, cf_q_0_1, cf_q_0_2, cf_q_0_3, cf_q_0_4, cf_q_0_5, cf_q_0_6, cf_q_0_7, cf_q_0_8, cf_q_0_9, cf_q_1_0, cf_q_1_2, cf_q_1_3, cf_q_1_4, cf_q_1_5, cf_q_1_6, cf_q_1_7, cf_q_1_8, cf_q_1_9, cf_q_2_0, cf_q_2_1, cf_q_2_3, cf_q_2_4, cf_q_2_5, cf_q_2_6, cf_q_2_7, cf_q_2_8, cf_q_2_9, cf_q_3_0, cf_q_3_1, cf_q_3_2, cf_q_3_4, cf_q_3_5, cf_q_3_6, cf_q_3_7, cf_q_3_8, cf_q_3_9, cf_q_4_0, cf_q_4_1, cf_q_4_2, cf_q_4_3, cf_q_4_5, cf_q_4_6, cf_q_4_7, cf_q_4_8, cf_q_4_9, cf_q_5_0, cf_q_5_1, cf_q_5_2, cf_q_5_3, cf_q_5_4, cf_q_5_6, cf_q_5_7, cf_q_5_8, cf_q_5_9, cf_q_6_0, cf_q_6_1, cf_q_6_2, cf_q_6_3, cf_q_6_4, cf_q_6_5, cf_q_6_7, cf_q_6_8, cf_q_6_9, cf_q_7_0, cf_q_7_1, cf_q_7_2, cf_q_7_3, cf_q_7_4, cf_q_7_5, cf_q_7_6, cf_q_7_8, cf_q_7_9, cf_q_8_0, cf_q_8_1, cf_q_8_2, cf_q_8_3, cf_q_8_4, cf_q_8_5, cf_q_8_6, cf_q_8_7, cf_q_8_9, cf_q_9_0, cf_q_9_1, cf_q_9_2, cf_q_9_3, cf_q_9_4, cf_q_9_5, cf_q_9_6, cf_q_9_7, cf_q_9_8]
        refine ⟨by simp, by simp [cf_b], _, rfl, ?_⟩
        refine ⟨by simp [upd], by simp [upd, f19], by simp [upd, ← hal], by simp [upd], fun k k1 k2 k3 k4 => ?_⟩
        simp [upd, k1, k4, fr k k1 k2 k3 k4]
      · have ev : cf_hv (w 19) N (fun t => cf_kn (w 20) (w 21) t m) (fu + 1) wo T (f 20) = (5, -1, f 20, -1) := by
          simp only [cf_hv]
          rw [if_pos hb, if_neg hal]
        rw [ev]
        simp only [r_P_halve_0, r_P_halve_1, r_P_halve_4, r_P_halve_5, r_P_halve_6, r_P_halve_7, r_P_halve_10, r_P_halve_11, r_P_halve_12, r_P_halve_13, r_P_halve_16, r_P_halve_17, r_P_halve_18, r_P_halve_19, r_P_halve_20, r_P_halve_21, r_P_halve_24, r_P_halve_25, r_P_halve_28, r_P_halve_29, r_P_halve_30, r_P_halve_33, r_P_halve_34, r_P_halve_37, r_P_halve_38, r_P_halve_39, r_P_halve_40, r_P_halve_41, r_P_halve_44, r_P_halve_45, r_P_halve_47, r_P_halve_49, r_P_halve_52, r_P_halve_53, r_P_halve_54, c_P_halve_55 (hmid), r_P_halve_58, r_P_halve_60, r_P_halve_62, r_P_halve_65, r_P_halve_66, r_P_halve_69, r_P_halve_70, r_P_halve_71, r_P_halve_72, r_P_halve_75, r_P_halve_76, r_P_halve_79, r_P_halve_80, r_P_halve_82, r_P_halve_83, r_P_halve_85, r_P_halve_88, r_P_halve_89, r_P_halve_92, r_P_halve_93, r_P_halve_96, r_P_halve_97, r_P_halve_99, r_P_halve_102, r_P_halve_103, r_P_halve_106, r_P_halve_107, r_P_halve_110, r_P_halve_112, r_P_halve_113, r_P_halve_114, r_P_halve_116, r_P_halve_119, r_P_halve_121, r_P_halve_123, r_P_halve_126, r_P_halve_127, r_P_halve_128, r_P_halve_129, r_P_halve_130, r_P_halve_132, r_P_halve_133, r_P_halve_134, r_P_halve_135, r_P_halve_137, r_P_halve_138, r_P_halve_141, r_P_halve_143, r_P_halve_146, r_P_halve_147, r_P_halve_148, r_P_halve_149, r_P_halve_151, r_P_halve_152, r_P_halve_155, r_P_halve_156, r_P_halve_159, r_P_halve_160, r_P_halve_163, r_P_halve_165, r_P_halve_166, r_P_halve_167, r_P_halve_170, r_P_halve_172, r_P_halve_173, r_P_halve_176, r_P_halve_177, r_P_halve_180, r_P_halve_181, r_P_halve_184, r_P_halve_186, r_P_halve_187, r_P_halve_188, r_P_halve_189, r_P_halve_190, r_P_halve_193, r_P_halve_194, r_P_halve_197, r_P_halve_200, r_P_halve_203, r_P_halve_206, r_P_halve_207, hc, hge, cf_wa_s, cf_wa_n, pk_us, pk_un, ne_eq, Nat.reduceEqDiff, not_false_eq_true, reduceCtorEq, cf_wa_wa, ↓reduceIte, hal, not_false_eq_true, cf_q_0_1, cf_q_0_2, cf_q_0_3, cf_q_0_4, cf_q_0_5, cf_q_0_6, cf_q_0_7, cf_q_0_8, cf_q_0_9, cf_q_1_0, cf_q_1_2, cf_q_1_3, cf_q_1_4, cf_q_1_5, cf_q_1_6, cf_q_1_7, cf_q_1_8, cf_q_1_9, cf_q_2_0, cf_q_2_1, cf_q_2_3, cf_q_2_4, cf_q_2_5, cf_q_2_6, cf_q_2_7, cf_q_2_8, cf_q_2_9, cf_q_3_0, cf_q_3_1, cf_q_3_2, cf_q_3_4, cf_q_3_5, cf_q_3_6, cf_q_3_7, cf_q_3_8, cf_q_3_9, cf_q_4_0, cf_q_4_1, cf_q_4_2, cf_q_4_3, cf_q_4_5, cf_q_4_6, cf_q_4_7, cf_q_4_8, cf_q_4_9, cf_q_5_0, cf_q_5_1, cf_q_5_2, cf_q_5_3, cf_q_5_4, cf_q_5_6, cf_q_5_7, cf_q_5_8, cf_q_5_9, cf_q_6_0, cf_q_6_1, cf_q_6_2, cf_q_6_3, cf_q_6_4, cf_q_6_5, cf_q_6_7, cf_q_6_8, cf_q_6_9, cf_q_7_0, cf_q_7_1, cf_q_7_2, cf_q_7_3, cf_q_7_4, cf_q_7_5, cf_q_7_6, cf_q_7_8, cf_q_7_9, cf_q_8_0, cf_q_8_1, cf_q_8_2, cf_q_8_3, cf_q_8_4, cf_q_8_5, cf_q_8_6, cf_q_8_7, cf_q_8_9, cf_q_9_0, cf_q_9_1, cf_q_9_2, cf_q_9_3, cf_q_9_4, cf_q_9_5, cf_q_9_6, cf_q_9_7, cf_q_9_8]
        refine ⟨by simp, by simp [cf_b], _, rfl, ?_⟩
        refine ⟨by simp [upd], by simp [upd, f19], by simp [upd], by simp [upd], fun k k1 k2 k3 k4 => ?_⟩
        simp [upd, k1, k4, fr k k1 k2 k3 k4]
    · have hge : ((0 : Int32) ≤ nI c) = True := eq_true (nI_pos' (by omega))
      have hne : ¬ nI c = -1 := by rw [cf_m1 (by omega)]; exact id
      rw [hb] at hmid
      have hask := sp_P_ask (w := w) (f := f) (t := nI c) hm g11
      by_cases hv0 : cf_kn (w 20) (w 21) (nI c) m = 0
      · have ev : cf_hv (w 19) N (fun t => cf_kn (w 20) (w 21) t m) (fu + 1) wo T (f 20) = (2, nI c, f 20, -1) := by
          simp only [cf_hv, hb]
          rw [if_neg hne, if_pos hv0]
        rw [ev]
        rw [if_pos hv0, hv0] at hask
        simp only [r_P_halve_0, r_P_halve_1, r_P_halve_4, r_P_halve_5, r_P_halve_6, r_P_halve_7, r_P_halve_10, r_P_halve_11, r_P_halve_12, r_P_halve_13, r_P_halve_16, r_P_halve_17, r_P_halve_18, r_P_halve_19, r_P_halve_20, r_P_halve_21, r_P_halve_24, r_P_halve_25, r_P_halve_28, r_P_halve_29, r_P_halve_30, r_P_halve_33, r_P_halve_34, r_P_halve_37, r_P_halve_38, r_P_halve_39, r_P_halve_40, r_P_halve_41, r_P_halve_44, r_P_halve_45, r_P_halve_47, r_P_halve_49, r_P_halve_52, r_P_halve_53, r_P_halve_54, c_P_halve_55 (hmid), r_P_halve_58, r_P_halve_60, r_P_halve_62, r_P_halve_65, r_P_halve_66, r_P_halve_69, r_P_halve_70, r_P_halve_71, r_P_halve_72, r_P_halve_75, r_P_halve_76, r_P_halve_79, r_P_halve_80, r_P_halve_82, r_P_halve_83, r_P_halve_85, r_P_halve_88, r_P_halve_89, r_P_halve_92, r_P_halve_93, r_P_halve_96, r_P_halve_97, r_P_halve_99, r_P_halve_102, r_P_halve_103, r_P_halve_106, r_P_halve_107, r_P_halve_110, r_P_halve_112, r_P_halve_113, r_P_halve_114, c_P_halve_116 (hask), r_P_halve_119, r_P_halve_121, r_P_halve_123, r_P_halve_126, r_P_halve_127, r_P_halve_128, r_P_halve_129, r_P_halve_130, r_P_halve_132, r_P_halve_133, r_P_halve_134, r_P_halve_135, r_P_halve_137, r_P_halve_138, r_P_halve_141, r_P_halve_143, r_P_halve_146, r_P_halve_147, r_P_halve_148, r_P_halve_149, r_P_halve_151, r_P_halve_152, r_P_halve_155, r_P_halve_156, r_P_halve_159, r_P_halve_160, r_P_halve_163, r_P_halve_165, r_P_halve_166, r_P_halve_167, r_P_halve_170, r_P_halve_172, r_P_halve_173, r_P_halve_176, r_P_halve_177, r_P_halve_180, r_P_halve_181, r_P_halve_184, r_P_halve_186, r_P_halve_187, r_P_halve_188, r_P_halve_189, r_P_halve_190, r_P_halve_193, r_P_halve_194, r_P_halve_197, r_P_halve_200, r_P_halve_203, r_P_halve_206, r_P_halve_207, hc, hge, cf_wa_s, cf_wa_n, pk_us, pk_un, ne_eq, Nat.reduceEqDiff, not_false_eq_true, reduceCtorEq, cf_wa_wa, ↓reduceIte, not_true_eq_false]
        refine ⟨by simp, by simp [cf_b], _, rfl, ?_⟩
        refine ⟨by simp [upd, f18], by simp [upd], by simp [upd], by simp [upd, f21], fun k k1 k2 k3 k4 => ?_⟩
        simp [upd, k2, fr k k1 k2 k3 k4]
      · rw [if_neg hv0] at hask
        have hc14 : c < 14 := by omega
        have ev : cf_hv (w 19) N (fun t => cf_kn (w 20) (w 21) t m) (fu + 1) wo T (f 20) = cf_hv (w 19) N (fun t => cf_kn (w 20) (w 21) t m) fu (if cf_kn (w 20) (w 21) (nI c) m = 2 then c else wo) (T ||| 1 <<< (nI c &&& 31)) (if cf_kn (w 20) (w 21) (nI c) m = 2 then f 20 &&& w 19 c else if cf_kn (w 20) (w 21) (nI c) m = 1 then f 20 &&& (w 19 c ^^^ -1) else f 20) := by
          simp only [cf_hv, hb]
          rw [if_neg hne, if_neg hv0, nI_clamp (show c < 2 ^ 31 by omega)]
        rw [ev]
        have next := fun (wo' : Nat) (S' : Int32) (h1 : wo' < 14) (h2 : cf_m14 S') => ih (g + 1) wo' (T ||| 1 <<< (nI c &&& 31)) (upd (upd f 19 (f 19)) 20 S') (by omega) h1 (by simpa [upd] using h2) ⟨by simp [upd, f18], by simp [upd, f19], rfl, by simp [upd, f21], fun k k1 k2 k3 k4 => by simp [upd, k2, k3, fr k k1 k2 k3 k4]⟩
        by_cases hv2 : cf_kn (w 20) (w 21) (nI c) m = 2
        · rw [if_pos hv2, if_pos hv2]
          rw [hv2] at hask
          simp only [r_P_halve_0, r_P_halve_1, r_P_halve_4, r_P_halve_5, r_P_halve_6, r_P_halve_7, r_P_halve_10, r_P_halve_11, r_P_halve_12, r_P_halve_13, r_P_halve_16, r_P_halve_17, r_P_halve_18, r_P_halve_19, r_P_halve_20, r_P_halve_21, r_P_halve_24, r_P_halve_25, r_P_halve_28, r_P_halve_29, r_P_halve_30, r_P_halve_33, r_P_halve_34, r_P_halve_37, r_P_halve_38, r_P_halve_39, r_P_halve_40, r_P_halve_41, r_P_halve_44, r_P_halve_45, r_P_halve_47, r_P_halve_49, r_P_halve_52, r_P_halve_53, r_P_halve_54, c_P_halve_55 (hmid), r_P_halve_58, r_P_halve_60, r_P_halve_62, r_P_halve_65, r_P_halve_66, r_P_halve_69, r_P_halve_70, r_P_halve_71, r_P_halve_72, r_P_halve_75, r_P_halve_76, r_P_halve_79, r_P_halve_80, r_P_halve_82, r_P_halve_83, r_P_halve_85, r_P_halve_88, r_P_halve_89, r_P_halve_92, r_P_halve_93, r_P_halve_96, r_P_halve_97, r_P_halve_99, r_P_halve_102, r_P_halve_103, r_P_halve_106, r_P_halve_107, r_P_halve_110, r_P_halve_112, r_P_halve_113, r_P_halve_114, c_P_halve_116 (hask), r_P_halve_119, r_P_halve_121, r_P_halve_123, r_P_halve_126, r_P_halve_127, r_P_halve_128, r_P_halve_129, r_P_halve_130, r_P_halve_132, r_P_halve_133, r_P_halve_134, r_P_halve_135, r_P_halve_137, r_P_halve_138, r_P_halve_141, r_P_halve_143, r_P_halve_146, r_P_halve_147, r_P_halve_148, r_P_halve_149, r_P_halve_151, r_P_halve_152, r_P_halve_155, r_P_halve_156, r_P_halve_159, r_P_halve_160, r_P_halve_163, r_P_halve_165, r_P_halve_166, r_P_halve_167, r_P_halve_170, r_P_halve_172, r_P_halve_173, r_P_halve_176, r_P_halve_177, r_P_halve_180, r_P_halve_181, r_P_halve_184, r_P_halve_186, r_P_halve_187, r_P_halve_188, r_P_halve_189, r_P_halve_190, r_P_halve_193, r_P_halve_194, r_P_halve_197, r_P_halve_200, r_P_halve_203, r_P_halve_206, r_P_halve_207, hc, hge, cf_wa_s, cf_wa_n, pk_us, pk_un, ne_eq, Nat.reduceEqDiff, not_false_eq_true, reduceCtorEq, cf_wa_wa, ↓reduceIte, not_true_eq_false, not_false_eq_true, cf_q_0_1, cf_q_0_2, cf_q_0_3, cf_q_0_4, cf_q_0_5, cf_q_0_6, cf_q_0_7, cf_q_0_8, cf_q_0_9, cf_q_1_0, cf_q_1_2, cf_q_1_3, cf_q_1_4, cf_q_1_5, cf_q_1_6, cf_q_1_7, cf_q_1_8, cf_q_1_9, cf_q_2_0, cf_q_2_1, cf_q_2_3, cf_q_2_4, cf_q_2_5, cf_q_2_6, cf_q_2_7, cf_q_2_8, cf_q_2_9, cf_q_3_0, cf_q_3_1, cf_q_3_2, cf_q_3_4, cf_q_3_5, cf_q_3_6, cf_q_3_7, cf_q_3_8, cf_q_3_9, cf_q_4_0, cf_q_4_1, cf_q_4_2, cf_q_4_3, cf_q_4_5, cf_q_4_6, cf_q_4_7, cf_q_4_8, cf_q_4_9, cf_q_5_0, cf_q_5_1, cf_q_5_2, cf_q_5_3, cf_q_5_4, cf_q_5_6, cf_q_5_7, cf_q_5_8, cf_q_5_9, cf_q_6_0, cf_q_6_1, cf_q_6_2, cf_q_6_3, cf_q_6_4, cf_q_6_5, cf_q_6_7, cf_q_6_8, cf_q_6_9, cf_q_7_0, cf_q_7_1, cf_q_7_2, cf_q_7_3, cf_q_7_4, cf_q_7_5, cf_q_7_6, cf_q_7_8, cf_q_7_9, cf_q_8_0, cf_q_8_1, cf_q_8_2, cf_q_8_3, cf_q_8_4, cf_q_8_5, cf_q_8_6, cf_q_8_7, cf_q_8_9, cf_q_9_0, cf_q_9_1, cf_q_9_2, cf_q_9_3, cf_q_9_4, cf_q_9_5, cf_q_9_6, cf_q_9_7, cf_q_9_8, cf_in_nI hc14 (by decide), nI_clamp (show c < 2 ^ 31 by omega), true_and, nI_1]
          have := next c (f 20 &&& w 19 c) hc14 (cf_m14_and hS) (some (.inl (nI c))) (some (.inl 2))
          simpa only [pk_us] using this
        · by_cases hv1 : cf_kn (w 20) (w 21) (nI c) m = 1
          · rw [if_neg hv2, if_neg hv2, if_pos hv1]
            rw [hv1] at hask
            simp only [r_P_halve_0, r_P_halve_1, r_P_halve_4, r_P_halve_5, r_P_halve_6, r_P_halve_7, r_P_halve_10, r_P_halve_11, r_P_halve_12, r_P_halve_13, r_P_halve_16, r_P_halve_17, r_P_halve_18, r_P_halve_19, r_P_halve_20, r_P_halve_21, r_P_halve_24, r_P_halve_25, r_P_halve_28, r_P_halve_29, r_P_halve_30, r_P_halve_33, r_P_halve_34, r_P_halve_37, r_P_halve_38, r_P_halve_39, r_P_halve_40, r_P_halve_41, r_P_halve_44, r_P_halve_45, r_P_halve_47, r_P_halve_49, r_P_halve_52, r_P_halve_53, r_P_halve_54, c_P_halve_55 (hmid), r_P_halve_58, r_P_halve_60, r_P_halve_62, r_P_halve_65, r_P_halve_66, r_P_halve_69, r_P_halve_70, r_P_halve_71, r_P_halve_72, r_P_halve_75, r_P_halve_76, r_P_halve_79, r_P_halve_80, r_P_halve_82, r_P_halve_83, r_P_halve_85, r_P_halve_88, r_P_halve_89, r_P_halve_92, r_P_halve_93, r_P_halve_96, r_P_halve_97, r_P_halve_99, r_P_halve_102, r_P_halve_103, r_P_halve_106, r_P_halve_107, r_P_halve_110, r_P_halve_112, r_P_halve_113, r_P_halve_114, c_P_halve_116 (hask), r_P_halve_119, r_P_halve_121, r_P_halve_123, r_P_halve_126, r_P_halve_127, r_P_halve_128, r_P_halve_129, r_P_halve_130, r_P_halve_132, r_P_halve_133, r_P_halve_134, r_P_halve_135, r_P_halve_137, r_P_halve_138, r_P_halve_141, r_P_halve_143, r_P_halve_146, r_P_halve_147, r_P_halve_148, r_P_halve_149, r_P_halve_151, r_P_halve_152, r_P_halve_155, r_P_halve_156, r_P_halve_159, r_P_halve_160, r_P_halve_163, r_P_halve_165, r_P_halve_166, r_P_halve_167, r_P_halve_170, r_P_halve_172, r_P_halve_173, r_P_halve_176, r_P_halve_177, r_P_halve_180, r_P_halve_181, r_P_halve_184, r_P_halve_186, r_P_halve_187, r_P_halve_188, r_P_halve_189, r_P_halve_190, r_P_halve_193, r_P_halve_194, r_P_halve_197, r_P_halve_200, r_P_halve_203, r_P_halve_206, r_P_halve_207, hc, hge, cf_wa_s, cf_wa_n, pk_us, pk_un, ne_eq, Nat.reduceEqDiff, not_false_eq_true, reduceCtorEq, cf_wa_wa, ↓reduceIte, not_true_eq_false, not_false_eq_true, cf_q_0_1, cf_q_0_2, cf_q_0_3, cf_q_0_4, cf_q_0_5, cf_q_0_6, cf_q_0_7, cf_q_0_8, cf_q_0_9, cf_q_1_0, cf_q_1_2, cf_q_1_3, cf_q_1_4, cf_q_1_5, cf_q_1_6, cf_q_1_7, cf_q_1_8, cf_q_1_9, cf_q_2_0, cf_q_2_1, cf_q_2_3, cf_q_2_4, cf_q_2_5, cf_q_2_6, cf_q_2_7, cf_q_2_8, cf_q_2_9, cf_q_3_0, cf_q_3_1, cf_q_3_2, cf_q_3_4, cf_q_3_5, cf_q_3_6, cf_q_3_7, cf_q_3_8, cf_q_3_9, cf_q_4_0, cf_q_4_1, cf_q_4_2, cf_q_4_3, cf_q_4_5, cf_q_4_6, cf_q_4_7, cf_q_4_8, cf_q_4_9, cf_q_5_0, cf_q_5_1, cf_q_5_2, cf_q_5_3, cf_q_5_4, cf_q_5_6, cf_q_5_7, cf_q_5_8, cf_q_5_9, cf_q_6_0, cf_q_6_1, cf_q_6_2, cf_q_6_3, cf_q_6_4, cf_q_6_5, cf_q_6_7, cf_q_6_8, cf_q_6_9, cf_q_7_0, cf_q_7_1, cf_q_7_2, cf_q_7_3, cf_q_7_4, cf_q_7_5, cf_q_7_6, cf_q_7_8, cf_q_7_9, cf_q_8_0, cf_q_8_1, cf_q_8_2, cf_q_8_3, cf_q_8_4, cf_q_8_5, cf_q_8_6, cf_q_8_7, cf_q_8_9, cf_q_9_0, cf_q_9_1, cf_q_9_2, cf_q_9_3, cf_q_9_4, cf_q_9_5, cf_q_9_6, cf_q_9_7, cf_q_9_8, cf_in_nI hc14 (by decide), nI_clamp (show c < 2 ^ 31 by omega), true_and, nI_1]
            have := next wo (f 20 &&& (w 19 c ^^^ -1)) hwo (cf_m14_and hS) (some (.inl (nI c))) (some (.inl 1))
            simpa only [pk_us] using this
          · rw [if_neg hv2, if_neg hv2, if_neg hv1]
            simp only [r_P_halve_0, r_P_halve_1, r_P_halve_4, r_P_halve_5, r_P_halve_6, r_P_halve_7, r_P_halve_10, r_P_halve_11, r_P_halve_12, r_P_halve_13, r_P_halve_16, r_P_halve_17, r_P_halve_18, r_P_halve_19, r_P_halve_20, r_P_halve_21, r_P_halve_24, r_P_halve_25, r_P_halve_28, r_P_halve_29, r_P_halve_30, r_P_halve_33, r_P_halve_34, r_P_halve_37, r_P_halve_38, r_P_halve_39, r_P_halve_40, r_P_halve_41, r_P_halve_44, r_P_halve_45, r_P_halve_47, r_P_halve_49, r_P_halve_52, r_P_halve_53, r_P_halve_54, c_P_halve_55 (hmid), r_P_halve_58, r_P_halve_60, r_P_halve_62, r_P_halve_65, r_P_halve_66, r_P_halve_69, r_P_halve_70, r_P_halve_71, r_P_halve_72, r_P_halve_75, r_P_halve_76, r_P_halve_79, r_P_halve_80, r_P_halve_82, r_P_halve_83, r_P_halve_85, r_P_halve_88, r_P_halve_89, r_P_halve_92, r_P_halve_93, r_P_halve_96, r_P_halve_97, r_P_halve_99, r_P_halve_102, r_P_halve_103, r_P_halve_106, r_P_halve_107, r_P_halve_110, r_P_halve_112, r_P_halve_113, r_P_halve_114, c_P_halve_116 (hask), r_P_halve_119, r_P_halve_121, r_P_halve_123, r_P_halve_126, r_P_halve_127, r_P_halve_128, r_P_halve_129, r_P_halve_130, r_P_halve_132, r_P_halve_133, r_P_halve_134, r_P_halve_135, r_P_halve_137, r_P_halve_138, r_P_halve_141, r_P_halve_143, r_P_halve_146, r_P_halve_147, r_P_halve_148, r_P_halve_149, r_P_halve_151, r_P_halve_152, r_P_halve_155, r_P_halve_156, r_P_halve_159, r_P_halve_160, r_P_halve_163, r_P_halve_165, r_P_halve_166, r_P_halve_167, r_P_halve_170, r_P_halve_172, r_P_halve_173, r_P_halve_176, r_P_halve_177, r_P_halve_180, r_P_halve_181, r_P_halve_184, r_P_halve_186, r_P_halve_187, r_P_halve_188, r_P_halve_189, r_P_halve_190, r_P_halve_193, r_P_halve_194, r_P_halve_197, r_P_halve_200, r_P_halve_203, r_P_halve_206, r_P_halve_207, hc, hge, cf_wa_s, cf_wa_n, pk_us, pk_un, ne_eq, Nat.reduceEqDiff, not_false_eq_true, reduceCtorEq, cf_wa_wa, ↓reduceIte, not_true_eq_false, not_false_eq_true, hv0, hv1, hv2, nI_1]
            have := next wo (f 20) hwo hS (some (.inl (nI c))) (some (.inl (cf_kn (w 20) (w 21) (nI c) m)))
            simpa only [pk_us] using this
theorem sp_P_halve {w : cf_Wd} {N m g b : Nat} (hN : N ≤ 14) (hm : m ≤ 600) (hA : ∀ c, c < N → cf_m14 (w 19 c)) {f : Nat → Int32} (h0 : f 0 = nI N) (h11 : f 11 = nI m) (hg : g < N) (hb : b < N) (h6 : f 6 = nI g) (h7 : f 7 = nI b) (hf : f 18 = 2 ∧ f 19 = -1 ∧ f 21 = -1) : ∃ x w1, F_P_halve [.inr 15] (cf_wa w 15 f) = some (some (.inl x), w1) ∧ (x = cf_b (decide ((cf_hv (w 19) N (fun t => cf_kn (w 20) (w 21) t m) 16 b (1 <<< (nI b &&& 31) ||| 1 <<< (nI g &&& 31)) (w 19 b &&& (w 19 g ^^^ -1))).1 = 3)) ∧ ∃ f', w1 = cf_wa w 15 f' ∧ cf_fx f f' (cf_hv (w 19) N (fun t => cf_kn (w 20) (w 21) t m) 16 b (1 <<< (nI b &&& 31) ||| 1 <<< (nI g &&& 31)) (w 19 b &&& (w 19 g ^^^ -1)))) := by
  refine e_P_halve ?_
  have h := lp_P_halve (w := w) hN hm hA (f0 := f) h0 h11 16 0 b (1 <<< (nI b &&& 31) ||| 1 <<< (nI g &&& 31)) (upd f 20 (w 19 b &&& (w 19 g ^^^ -1))) (by omega) (by omega) (by rw [pk_us]; exact cf_m14_and (hA b hb)) ⟨by simp [upd, hf.1], by simp [upd, hf.2.1], rfl, by simp [upd, hf.2.2], fun k k1 k2 k3 k4 => by simp [upd, k3]⟩ none none
  rw [pk_us, nI_0] at h
  simp only [r_P_halve_0, r_P_halve_1, r_P_halve_4, r_P_halve_5, r_P_halve_6, r_P_halve_7, r_P_halve_10, r_P_halve_11, r_P_halve_12, r_P_halve_13, r_P_halve_16, r_P_halve_17, r_P_halve_18, r_P_halve_19, r_P_halve_20, r_P_halve_21, r_P_halve_24, r_P_halve_25, r_P_halve_28, r_P_halve_29, r_P_halve_30, r_P_halve_33, r_P_halve_34, r_P_halve_37, r_P_halve_38, r_P_halve_39, r_P_halve_40, r_P_halve_41, r_P_halve_44, r_P_halve_45, r_P_halve_47, r_P_halve_49, r_P_halve_52, r_P_halve_53, r_P_halve_54, r_P_halve_55, r_P_halve_58, r_P_halve_60, r_P_halve_62, r_P_halve_65, r_P_halve_66, r_P_halve_69, r_P_halve_70, r_P_halve_71, r_P_halve_72, r_P_halve_75, r_P_halve_76, r_P_halve_79, r_P_halve_80, r_P_halve_82, r_P_halve_83, r_P_halve_85, r_P_halve_88, r_P_halve_89, r_P_halve_92, r_P_halve_93, r_P_halve_96, r_P_halve_97, r_P_halve_99, r_P_halve_102, r_P_halve_103, r_P_halve_106, r_P_halve_107, r_P_halve_110, r_P_halve_112, r_P_halve_113, r_P_halve_114, r_P_halve_116, r_P_halve_119, r_P_halve_121, r_P_halve_123, r_P_halve_126, r_P_halve_127, r_P_halve_128, r_P_halve_129, r_P_halve_130, r_P_halve_132, r_P_halve_133, r_P_halve_134, r_P_halve_135, r_P_halve_137, r_P_halve_138, r_P_halve_141, r_P_halve_143, r_P_halve_146, r_P_halve_147, r_P_halve_148, r_P_halve_149, r_P_halve_151, r_P_halve_152, r_P_halve_155, r_P_halve_156, r_P_halve_159, r_P_halve_160, r_P_halve_163, r_P_halve_165, r_P_halve_166, r_P_halve_167, r_P_halve_170, r_P_halve_172, r_P_halve_173, r_P_halve_176, r_P_halve_177, r_P_halve_180, r_P_halve_181, r_P_halve_184, r_P_halve_186, r_P_halve_187, r_P_halve_188, r_P_halve_189, r_P_halve_190, r_P_halve_193, r_P_halve_194, r_P_halve_197, r_P_halve_200, r_P_halve_203, r_P_halve_206, r_P_halve_207, cf_wa_s, cf_wa_n, pk_us, pk_un, ne_eq, Nat.reduceEqDiff, not_false_eq_true, reduceCtorEq, h6, h7, cf_wa_wa, cf_in_nI (show b < 14 by omega) (by decide), cf_in_nI (show g < 14 by omega) (by decide), nI_clamp (show b < 2 ^ 31 by omega), nI_clamp (show g < 2 ^ 31 by omega), true_and]
  exact h
