/-! the reference: reduce, work -/
theorem cf_chg_bt {f : Nat → Int32} {n m : Nat} : ∀ k, k ≤ 8 → ∀ i, i < 32 → k ≤ i → bt (cf_chg f n m k) i = false := by
  intro k
  induction k with
  | zero => intro _ i _ _; exact b_0 i
  | succ k ih =>
    intro hk i hi hik
    by_cases h : f (8 * n + k) = f (8 * m + k)
    · rw [show cf_chg f n m (k + 1) = cf_chg f n m k from if_pos h]
      exact ih (by omega) i hi (by omega)
    · rw [show cf_chg f n m (k + 1) = cf_chg f n m k ||| 1 <<< (nI k &&& 31) from if_neg h, b_or, ih (by omega) i hi (by omega), bt_sh (by omega) hi]
      have e : ¬ i = k := by omega
      simp [e]
theorem cf_lt_bt {x : Int32} {k : Nat} (hk : k < 32) (h : ∀ i, i < 32 → k ≤ i → bt x i = false) : x.toBitVec.toNat < 2 ^ k := by
  apply Nat.lt_of_not_le
  intro hle
  obtain ⟨i, hi, hb⟩ := Nat.exists_ge_and_testBit_of_ge_two_pow hle
  have h32 : i < 32 := by
    by_cases h32 : i < 32
    · exact h32
    · have e : bt x i = false := b_big (by omega)
      have e2 : x.toBitVec.toNat.testBit i = false := e
      rw [e2] at hb
      cases hb
  have e : x.toBitVec.toNat.testBit i = false := h i h32 hi
  rw [e] at hb
  cases hb
theorem cf_chg_256 {f : Nat → Int32} {n m : Nat} : ∃ t, t < 256 ∧ cf_chg f n m 8 = nI t := ⟨_, cf_lt_bt (k := 8) (by decide) (fun i hi h => cf_chg_bt 8 (Nat.le_refl 8) i hi h), cf_of _⟩
theorem cf_chg_comm {f : Nat → Int32} {n m : Nat} : ∀ k, cf_chg f n m k = cf_chg f m n k := by
  intro k
  induction k with
  | zero => rfl
  | succ k ih =>
    by_cases h : f (8 * n + k) = f (8 * m + k)
    · rw [show cf_chg f n m (k + 1) = cf_chg f n m k from if_pos h, show cf_chg f m n (k + 1) = cf_chg f m n k from if_pos h.symm, ih]
    · rw [show cf_chg f n m (k + 1) = cf_chg f n m k ||| 1 <<< (nI k &&& 31) from if_neg h, show cf_chg f m n (k + 1) = cf_chg f m n k ||| 1 <<< (nI k &&& 31) from if_neg (fun e => h e.symm), ih]
theorem cf_chg_congr {f g : Nat → Int32} {n m : Nat} (h : ∀ k, k < 8 → f (8 * n + k) = g (8 * n + k) ∧ f (8 * m + k) = g (8 * m + k)) : ∀ k, k ≤ 8 → cf_chg f n m k = cf_chg g n m k := by
  intro k
  induction k with
  | zero => intro _; rfl
  | succ k ih =>
    intro hk
    have e := h k (by omega)
    simp only [cf_chg]
    rw [e.1, e.2, ih (by omega)]
def cf_rfx (f f' : Nat → Int32) (r : Int32 × Int32) : Prop := f' 18 = (if r.1 = -1 then 4 else 3) ∧ f' 19 = (if r.1 = -1 then -1 else 1000 + r.1) ∧ f' 22 = r.2 ∧ ∀ k, k ≠ 18 → k ≠ 19 → k ≠ 22 → f' k = f k
theorem lp_P_reduce {w : cf_Wd} {m al : Nat} (hm : m ≤ 600) (hal : al < 256) {f0 : Nat → Int32} (h11 : f0 11 = nI m) : ∀ fu s n f, s < 256 → 2 ≤ n → n ≤ 8 → (n ≤ cf_pop s ∨ cf_pop s ≤ 1) → cf_pop s ≤ cf_pop al → 8 * cf_pop s + 1 ≤ fu + n → 1 ≤ fu → f 18 = 3 → f 19 = -1 → f 22 = nI s → (∀ k, k ≠ 18 → k ≠ 19 → k ≠ 22 → f k = f0 k) → ∀ l3 l4, cf_wp T_P_reduce (69, [some (.inr 15), some (.inl (nI al)), some (.inl (nI n)), l3, l4], [], cf_wa w 15 f) (cf_qv (fun w1 => ∃ f', w1 = cf_wa w 15 f' ∧ cf_rfx f0 f' (cf_rd (fun t => cf_kn (w 20) (w 21) t m) fu s n))) := by
  intro fu
  have h8 := cf_pop8
  have e1 : (1 : Int32) = nI 1 := by decide +kernel
  have e2 : (2 : Int32) = nI 2 := by decide +kernel
  induction fu with
  | zero => intro s n f _ _ _ _ _ _ hf; omega
  | succ fu ih =>
    intro s n f hs hn2 hn8 hns hpa hmu hfu f18 f19 f22 fr l3 l4
    have hp8 := h8 s hs
    have hm14 : cf_m14 (nI s) := cf_m14_n (by omega)
    have hbits := fun w => sp_P_bits (w := w) hm14
    rw [cf_pw_n (by omega)] at hbits
    have g11 : f 11 = nI m := (fr 11 (by decide) (by decide) (by decide)).trans h11
    have hle1 : (nI (cf_pop s) ≤ 1) = (cf_pop s ≤ 1) := by
      rw [e1]
      exact propext (nI_leI (by omega) (by decide))
    refine r_P_reduce_69.mpr ?_
    by_cases hp1 : cf_pop s ≤ 1
    · rw [cf_rd_1 hp1]
      simp only [r_P_reduce_70, r_P_reduce_73, c_P_reduce_73 (hbits _), r_P_reduce_76, r_P_reduce_77, cf_wa_s, cf_wa_n, pk_us, pk_un, ne_eq, Nat.reduceEqDiff, not_false_eq_true, reduceCtorEq, f22, hle1, hp1, ↓reduceIte, r_P_reduce_213, r_P_reduce_214, r_P_reduce_215, r_P_reduce_218, cf_wa_wa]
      refine ⟨_, rfl, ?_⟩
      refine ⟨by simp [upd], by simp [upd, f19], by simp [upd, f22], fun k k1 k2 k3 => by simp [upd, k1, fr k k1 k2 k3]⟩
    · have hnp : n ≤ cf_pop s := by omega
      have hK := fun rest i (hi : i < n) => cf_pKs hs hn2 hnp hi rest
      have hne : ∀ rest i, i < n → cf_sn (nI s) (nI n) rest (nI i) ≠ nI al := fun rest i hi e => by
        obtain ⟨t, t1, t2, t3, t4, _⟩ := hK rest i hi
        rw [t3] at e
        have e9 : t = al := (nI_eq (by omega) (by omega)).mp e
        rw [e9] at t4
        omega
      obtain ⟨x1, w1, hA, fA, eA, frA, rA⟩ := sp_P_failing (w := w) (rest := false) hm hs (by omega) (by omega) (hne false) g11 f22
      rw [show cf_b false = 0 from rfl, eA] at hA
      cases hfa : cf_ff (fun t => cf_kn (w 20) (w 21) t m) (nI s) (nI n) false n 0 with
      | some j =>
        rw [hfa] at rA
        obtain ⟨⟨_, hj⟩, hv⟩ := cf_ff_i _ _ _ hfa
        obtain ⟨t, t1, t2, t3, t4, _⟩ := hK false j (by omega)
        rw [cf_rd_a hp1 hfa, t3, cf_nIt t1]
        simp only [t3] at rA
        rcases rA with ⟨v0, rfl, a19⟩ | ⟨v0, rfl, a19⟩
        · rw [if_pos v0]
          have hge : ((0 : Int32) ≤ -1) = False := eq_false (by decide)
          simp only [r_P_reduce_0, r_P_reduce_1, r_P_reduce_2, r_P_reduce_3, r_P_reduce_5, r_P_reduce_7, r_P_reduce_10, r_P_reduce_11, r_P_reduce_14, r_P_reduce_16, r_P_reduce_17, r_P_reduce_20, r_P_reduce_21, r_P_reduce_22, r_P_reduce_23, r_P_reduce_24, r_P_reduce_25, r_P_reduce_28, r_P_reduce_30, r_P_reduce_31, r_P_reduce_34, r_P_reduce_35, r_P_reduce_38, r_P_reduce_39, r_P_reduce_40, r_P_reduce_41, r_P_reduce_42, r_P_reduce_43, r_P_reduce_46, r_P_reduce_47, r_P_reduce_48, r_P_reduce_49, r_P_reduce_50, r_P_reduce_51, r_P_reduce_54, r_P_reduce_55, r_P_reduce_56, r_P_reduce_59, r_P_reduce_62, r_P_reduce_63, r_P_reduce_64, r_P_reduce_67, r_P_reduce_68, r_P_reduce_70, c_P_reduce_73 (hbits _), r_P_reduce_76, r_P_reduce_77, r_P_reduce_80, r_P_reduce_81, r_P_reduce_82, r_P_reduce_83, c_P_reduce_84 (hA), r_P_reduce_87, r_P_reduce_88, r_P_reduce_89, r_P_reduce_92, r_P_reduce_93, r_P_reduce_94, r_P_reduce_95, r_P_reduce_98, r_P_reduce_99, r_P_reduce_100, r_P_reduce_103, r_P_reduce_104, r_P_reduce_105, r_P_reduce_108, r_P_reduce_111, r_P_reduce_112, r_P_reduce_113, r_P_reduce_116, r_P_reduce_117, r_P_reduce_118, r_P_reduce_119, r_P_reduce_120, r_P_reduce_123, r_P_reduce_124, r_P_reduce_125, r_P_reduce_128, r_P_reduce_129, r_P_reduce_130, r_P_reduce_131, r_P_reduce_134, r_P_reduce_135, r_P_reduce_136, r_P_reduce_139, r_P_reduce_140, r_P_reduce_143, r_P_reduce_144, r_P_reduce_145, r_P_reduce_148, r_P_reduce_149, r_P_reduce_150, r_P_reduce_151, r_P_reduce_154, r_P_reduce_155, r_P_reduce_156, r_P_reduce_157, r_P_reduce_158, r_P_reduce_161, r_P_reduce_162, r_P_reduce_163, r_P_reduce_164, r_P_reduce_167, r_P_reduce_168, r_P_reduce_169, r_P_reduce_172, r_P_reduce_173, r_P_reduce_176, r_P_reduce_179, r_P_reduce_181, r_P_reduce_182, r_P_reduce_184, r_P_reduce_187, r_P_reduce_188, r_P_reduce_189, r_P_reduce_192, r_P_reduce_193, r_P_reduce_194, r_P_reduce_195, r_P_reduce_196, r_P_reduce_198, r_P_reduce_201, r_P_reduce_202, r_P_reduce_203, r_P_reduce_204, r_P_reduce_207, r_P_reduce_209, r_P_reduce_210, r_P_reduce_213, r_P_reduce_214, r_P_reduce_215, r_P_reduce_218, cf_wa_s, cf_wa_n, pk_us, pk_un, ne_eq, Nat.reduceEqDiff, not_false_eq_true, reduceCtorEq, f22, hle1, hp1, hge, ↓reduceIte]
          refine ⟨fA, rfl, ?_⟩
          have hm1 : ¬ nI t = -1 := by rw [cf_m1 (by omega)]; exact id
          refine ⟨by rw [if_neg hm1, frA 18 (by decide), f18], by rw [if_neg hm1, a19], by rw [frA 22 (by decide), f22], fun k k1 k2 k3 => by rw [frA k k2, fr k k1 k2 k3]⟩
        · rw [if_neg v0]
          have hge : ((0 : Int32) ≤ nI j) = True := eq_true (nI_pos' (by omega))
          have hlt : (nI n ≤ nI j) = False := eq_false (nI_ge (by omega) (by omega))
          have hpc := fun w => sp_P_piece (w := w) (i := nI j) hm14 (cf_nz (show 0 < n by omega) (show n < 2 ^ 31 by omega))
          have epc : cf_pc (nI s) (nI j) (nI n) = nI t := t3
          rw [epc] at hpc
          simp only [r_P_reduce_0, r_P_reduce_1, r_P_reduce_2, r_P_reduce_3, r_P_reduce_5, r_P_reduce_7, r_P_reduce_10, r_P_reduce_11, r_P_reduce_14, r_P_reduce_16, r_P_reduce_17, r_P_reduce_20, r_P_reduce_21, r_P_reduce_22, r_P_reduce_23, r_P_reduce_24, r_P_reduce_25, r_P_reduce_28, r_P_reduce_30, r_P_reduce_31, r_P_reduce_34, r_P_reduce_35, r_P_reduce_38, r_P_reduce_39, r_P_reduce_40, r_P_reduce_41, r_P_reduce_42, r_P_reduce_43, r_P_reduce_46, r_P_reduce_47, r_P_reduce_48, r_P_reduce_49, r_P_reduce_50, r_P_reduce_51, r_P_reduce_54, r_P_reduce_55, r_P_reduce_56, r_P_reduce_59, r_P_reduce_62, r_P_reduce_63, r_P_reduce_64, r_P_reduce_67, r_P_reduce_68, r_P_reduce_70, c_P_reduce_73 (hbits _), r_P_reduce_76, r_P_reduce_77, r_P_reduce_80, r_P_reduce_81, r_P_reduce_82, r_P_reduce_83, c_P_reduce_84 (hA), r_P_reduce_87, r_P_reduce_88, r_P_reduce_89, r_P_reduce_92, r_P_reduce_93, r_P_reduce_94, r_P_reduce_95, r_P_reduce_98, r_P_reduce_99, r_P_reduce_100, r_P_reduce_103, r_P_reduce_104, c_P_reduce_105 (hpc _), r_P_reduce_108, r_P_reduce_111, r_P_reduce_112, r_P_reduce_113, r_P_reduce_116, r_P_reduce_117, r_P_reduce_118, r_P_reduce_119, r_P_reduce_120, r_P_reduce_123, r_P_reduce_124, r_P_reduce_125, r_P_reduce_128, r_P_reduce_129, r_P_reduce_130, r_P_reduce_131, r_P_reduce_134, r_P_reduce_135, r_P_reduce_136, r_P_reduce_139, r_P_reduce_140, r_P_reduce_143, r_P_reduce_144, r_P_reduce_145, r_P_reduce_148, r_P_reduce_149, r_P_reduce_150, r_P_reduce_151, r_P_reduce_154, r_P_reduce_155, r_P_reduce_156, r_P_reduce_157, r_P_reduce_158, r_P_reduce_161, r_P_reduce_162, r_P_reduce_163, r_P_reduce_164, r_P_reduce_167, r_P_reduce_168, r_P_reduce_169, r_P_reduce_172, r_P_reduce_173, r_P_reduce_176, r_P_reduce_179, r_P_reduce_181, r_P_reduce_182, r_P_reduce_184, r_P_reduce_187, r_P_reduce_188, r_P_reduce_189, r_P_reduce_192, r_P_reduce_193, r_P_reduce_194, r_P_reduce_195, r_P_reduce_196, r_P_reduce_198, r_P_reduce_201, r_P_reduce_202, r_P_reduce_203, r_P_reduce_204, r_P_reduce_207, r_P_reduce_209, r_P_reduce_210, r_P_reduce_213, r_P_reduce_214, r_P_reduce_215, r_P_reduce_218, cf_wa_s, cf_wa_n, pk_us, pk_un, ne_eq, Nat.reduceEqDiff, not_false_eq_true, reduceCtorEq, f22, hle1, hp1, hge, hlt, ↓reduceIte, cf_wa_wa, frA 22 (by decide)]
          have h9 := ih t 2 (upd fA 22 (nI t)) t1 (by omega) (by omega) (by omega) (by omega) (by omega) (by omega) (by simp [upd, frA 18 (by decide), f18]) (by simp [upd, a19, f19]) (by simp [upd]) (fun k k1 k2 k3 => by simp [upd, k3, frA k k2, fr k k1 k2 k3])
          rw [← e2] at h9
          exact h9 _ _
      | none =>
        rw [hfa] at rA
        obtain ⟨rfl, a19⟩ := rA
        have hge : ((0 : Int32) ≤ nI n) = True := eq_true (nI_pos' (by omega))
        have hnn : (nI n ≤ nI n) = True := eq_true (nI_le (Nat.le_refl n) (by omega))
        have hA22 : fA 22 = nI s := (frA 22 (by decide)).trans f22
        have hA11 : fA 11 = nI m := (frA 11 (by decide)).trans g11
        obtain ⟨x2, w2, hB, fB, eB, frB, rB⟩ := sp_P_failing (w := w) (rest := true) hm hs (by omega) (by omega) (hne true) hA11 hA22
        rw [show cf_b true = 1 from rfl, eB] at hB
        have hB22 : fB 22 = nI s := (frB 22 (by decide)).trans hA22
        cases hfb : cf_ff (fun t => cf_kn (w 20) (w 21) t m) (nI s) (nI n) true n 0 with
        | some j =>
          rw [hfb] at rB
          obtain ⟨⟨_, hj⟩, hv⟩ := cf_ff_i _ _ _ hfb
          obtain ⟨t, t1, t2, t3, t4, t5⟩ := hK true j (by omega)
          rw [cf_rd_b hp1 hfa hfb, t3, cf_nIt t1]
          simp only [t3] at rB
          rcases rB with ⟨v0, rfl, b19⟩ | ⟨v0, rfl, b19⟩
          · rw [if_pos v0]
            have hge1 : ((0 : Int32) ≤ -1) = False := eq_false (by decide)
            simp only [r_P_reduce_0, r_P_reduce_1, r_P_reduce_2, r_P_reduce_3, r_P_reduce_5, r_P_reduce_7, r_P_reduce_10, r_P_reduce_11, r_P_reduce_14, r_P_reduce_16, r_P_reduce_17, r_P_reduce_20, r_P_reduce_21, r_P_reduce_22, r_P_reduce_23, r_P_reduce_24, r_P_reduce_25, r_P_reduce_28, r_P_reduce_30, r_P_reduce_31, r_P_reduce_34, r_P_reduce_35, r_P_reduce_38, r_P_reduce_39, r_P_reduce_40, r_P_reduce_41, r_P_reduce_42, r_P_reduce_43, r_P_reduce_46, r_P_reduce_47, r_P_reduce_48, r_P_reduce_49, r_P_reduce_50, r_P_reduce_51, r_P_reduce_54, r_P_reduce_55, r_P_reduce_56, r_P_reduce_59, r_P_reduce_62, r_P_reduce_63, r_P_reduce_64, r_P_reduce_67, r_P_reduce_68, r_P_reduce_70, c_P_reduce_73 (hbits _), r_P_reduce_76, r_P_reduce_77, r_P_reduce_80, r_P_reduce_81, r_P_reduce_82, r_P_reduce_83, c_P_reduce_84 (hA), r_P_reduce_87, r_P_reduce_88, r_P_reduce_89, r_P_reduce_92, r_P_reduce_93, r_P_reduce_94, r_P_reduce_95, r_P_reduce_98, r_P_reduce_99, r_P_reduce_100, r_P_reduce_103, r_P_reduce_104, r_P_reduce_105, r_P_reduce_108, r_P_reduce_111, r_P_reduce_112, r_P_reduce_113, r_P_reduce_116, r_P_reduce_117, r_P_reduce_118, r_P_reduce_119, c_P_reduce_120 (hB), r_P_reduce_123, r_P_reduce_124, r_P_reduce_125, r_P_reduce_128, r_P_reduce_129, r_P_reduce_130, r_P_reduce_131, r_P_reduce_134, r_P_reduce_135, r_P_reduce_136, r_P_reduce_139, r_P_reduce_140, r_P_reduce_143, r_P_reduce_144, r_P_reduce_145, r_P_reduce_148, r_P_reduce_149, r_P_reduce_150, r_P_reduce_151, r_P_reduce_154, r_P_reduce_155, r_P_reduce_156, r_P_reduce_157, r_P_reduce_158, r_P_reduce_161, r_P_reduce_162, r_P_reduce_163, r_P_reduce_164, r_P_reduce_167, r_P_reduce_168, r_P_reduce_169, r_P_reduce_172, r_P_reduce_173, r_P_reduce_176, r_P_reduce_179, r_P_reduce_181, r_P_reduce_182, r_P_reduce_184, r_P_reduce_187, r_P_reduce_188, r_P_reduce_189, r_P_reduce_192, r_P_reduce_193, r_P_reduce_194, r_P_reduce_195, r_P_reduce_196, r_P_reduce_198, r_P_reduce_201, r_P_reduce_202, r_P_reduce_203, r_P_reduce_204, r_P_reduce_207, r_P_reduce_209, r_P_reduce_210, r_P_reduce_213, r_P_reduce_214, r_P_reduce_215, r_P_reduce_218, cf_wa_s, cf_wa_n, pk_us, pk_un, ne_eq, Nat.reduceEqDiff, not_false_eq_true, reduceCtorEq, f22, hle1, hp1, hge, hge1, hnn, ↓reduceIte]
            refine ⟨fB, rfl, ?_⟩
            have hm1 : ¬ nI t = -1 := by rw [cf_m1 (by omega)]; exact id
            refine ⟨by rw [if_neg hm1, frB 18 (by decide), frA 18 (by decide), f18], by rw [if_neg hm1, b19], by rw [hB22], fun k k1 k2 k3 => by rw [frB k k2, frA k k2, fr k k1 k2 k3]⟩
          · rw [if_neg v0]
            have hge1 : ((0 : Int32) ≤ nI j) = True := eq_true (nI_pos' (by omega))
            have hlt : (nI n ≤ nI j) = False := eq_false (nI_ge (by omega) (by omega))
            have hpc := fun w => sp_P_piece (w := w) (i := nI j) hm14 (cf_nz (show 0 < n by omega) (show n < 2 ^ 31 by omega))
            have epc : nI s &&& (cf_pc (nI s) (nI j) (nI n) ^^^ -1) = nI t := t3
            have hn1 : nI n - 1 = nI (n - 1) := by
              obtain ⟨q, rfl⟩ : ∃ q, n = q + 1 := ⟨n - 1, by omega⟩
              exact nI_pred q
            have hn2' : (nI (n - 1) ≤ 2) = (n - 1 ≤ 2) := by
              rw [e2]
              exact propext (nI_leI (by omega) (by decide))
            have := t5 rfl
            have h9 := ih t (max (n - 1) 2) (upd fB 22 (nI t)) t1 (by omega) (by omega) (by omega) (by omega) (by omega) (by omega) (by simp [upd, frB 18 (by decide), frA 18 (by decide), f18]) (by simp [upd, b19, a19, f19]) (by simp [upd]) (fun k k1 k2 k3 => by simp [upd, k3, frB k k2, frA k k2, fr k k1 k2 k3])
            simp only [r_P_reduce_0, r_P_reduce_1, r_P_reduce_2, r_P_reduce_3, r_P_reduce_5, r_P_reduce_7, r_P_reduce_10, r_P_reduce_11, r_P_reduce_14, r_P_reduce_16, r_P_reduce_17, r_P_reduce_20, r_P_reduce_21, r_P_reduce_22, r_P_reduce_23, r_P_reduce_24, r_P_reduce_25, r_P_reduce_28, r_P_reduce_30, r_P_reduce_31, r_P_reduce_34, r_P_reduce_35, r_P_reduce_38, r_P_reduce_39, r_P_reduce_40, r_P_reduce_41, r_P_reduce_42, r_P_reduce_43, r_P_reduce_46, r_P_reduce_47, r_P_reduce_48, r_P_reduce_49, r_P_reduce_50, r_P_reduce_51, r_P_reduce_54, r_P_reduce_55, r_P_reduce_56, r_P_reduce_59, r_P_reduce_62, r_P_reduce_63, r_P_reduce_64, r_P_reduce_67, r_P_reduce_68, r_P_reduce_70, c_P_reduce_73 (hbits _), r_P_reduce_76, r_P_reduce_77, r_P_reduce_80, r_P_reduce_81, r_P_reduce_82, r_P_reduce_83, c_P_reduce_84 (hA), r_P_reduce_87, r_P_reduce_88, r_P_reduce_89, r_P_reduce_92, r_P_reduce_93, r_P_reduce_94, r_P_reduce_95, r_P_reduce_98, r_P_reduce_99, r_P_reduce_100, r_P_reduce_103, r_P_reduce_104, r_P_reduce_105, r_P_reduce_108, r_P_reduce_111, r_P_reduce_112, r_P_reduce_113, r_P_reduce_116, r_P_reduce_117, r_P_reduce_118, r_P_reduce_119, c_P_reduce_120 (hB), r_P_reduce_123, r_P_reduce_124, r_P_reduce_125, r_P_reduce_128, r_P_reduce_129, r_P_reduce_130, r_P_reduce_131, r_P_reduce_134, r_P_reduce_135, r_P_reduce_136, r_P_reduce_139, r_P_reduce_140, r_P_reduce_143, r_P_reduce_144, c_P_reduce_145 (hpc _), r_P_reduce_148, r_P_reduce_149, r_P_reduce_150, r_P_reduce_151, r_P_reduce_154, r_P_reduce_155, r_P_reduce_156, r_P_reduce_157, r_P_reduce_158, r_P_reduce_161, r_P_reduce_162, r_P_reduce_163, r_P_reduce_164, r_P_reduce_167, r_P_reduce_168, r_P_reduce_169, r_P_reduce_172, r_P_reduce_173, r_P_reduce_176, r_P_reduce_179, r_P_reduce_181, r_P_reduce_182, r_P_reduce_184, r_P_reduce_187, r_P_reduce_188, r_P_reduce_189, r_P_reduce_192, r_P_reduce_193, r_P_reduce_194, r_P_reduce_195, r_P_reduce_196, r_P_reduce_198, r_P_reduce_201, r_P_reduce_202, r_P_reduce_203, r_P_reduce_204, r_P_reduce_207, r_P_reduce_209, r_P_reduce_210, r_P_reduce_213, r_P_reduce_214, r_P_reduce_215, r_P_reduce_218, cf_wa_s, cf_wa_n, pk_us, pk_un, ne_eq, Nat.reduceEqDiff, not_false_eq_true, reduceCtorEq, f22, hle1, hp1, hge, hge1, hnn, hlt, ↓reduceIte, cf_wa_wa, hB22, epc, hn1, hn2']
            by_cases hq : n - 1 ≤ 2
            · rw [if_pos hq]
              rw [show max (n - 1) 2 = 2 by omega, ← e2] at h9
              rw [show max (n - 1) 2 = 2 by omega]
              exact h9 _ _
            · rw [if_neg hq]
              rw [show max (n - 1) 2 = n - 1 by omega] at h9
              rw [show max (n - 1) 2 = n - 1 by omega]
              exact h9 _ _
        | none =>
          rw [hfb] at rB
          obtain ⟨rfl, b19⟩ := rB
          rw [cf_rd_c hp1 hfa hfb]
          have hlt : (nI n < nI (cf_pop s)) = (n < cf_pop s) := propext (nI_ltI (by omega) (by omega))
          have hle2 : (nI (cf_pop s) ≤ nI (2 * n)) = (cf_pop s ≤ 2 * n) := propext (nI_leI (by omega) (by omega))
          simp only [r_P_reduce_0, r_P_reduce_1, r_P_reduce_2, r_P_reduce_3, r_P_reduce_5, r_P_reduce_7, r_P_reduce_10, r_P_reduce_11, r_P_reduce_14, r_P_reduce_16, r_P_reduce_17, r_P_reduce_20, r_P_reduce_21, r_P_reduce_22, r_P_reduce_23, r_P_reduce_24, r_P_reduce_25, r_P_reduce_28, r_P_reduce_30, r_P_reduce_31, r_P_reduce_34, r_P_reduce_35, r_P_reduce_38, r_P_reduce_39, r_P_reduce_40, r_P_reduce_41, r_P_reduce_42, r_P_reduce_43, r_P_reduce_46, r_P_reduce_47, r_P_reduce_48, r_P_reduce_49, r_P_reduce_50, r_P_reduce_51, r_P_reduce_54, r_P_reduce_55, r_P_reduce_56, r_P_reduce_59, r_P_reduce_62, r_P_reduce_63, r_P_reduce_64, r_P_reduce_67, r_P_reduce_68, r_P_reduce_70, c_P_reduce_73 (hbits _), r_P_reduce_76, r_P_reduce_77, r_P_reduce_80, r_P_reduce_81, r_P_reduce_82, r_P_reduce_83, c_P_reduce_84 (hA), r_P_reduce_87, r_P_reduce_88, r_P_reduce_89, r_P_reduce_92, r_P_reduce_93, r_P_reduce_94, r_P_reduce_95, r_P_reduce_98, r_P_reduce_99, r_P_reduce_100, r_P_reduce_103, r_P_reduce_104, r_P_reduce_105, r_P_reduce_108, r_P_reduce_111, r_P_reduce_112, r_P_reduce_113, r_P_reduce_116, r_P_reduce_117, r_P_reduce_118, r_P_reduce_119, c_P_reduce_120 (hB), r_P_reduce_123, r_P_reduce_124, r_P_reduce_125, r_P_reduce_128, r_P_reduce_129, r_P_reduce_130, r_P_reduce_131, r_P_reduce_134, r_P_reduce_135, r_P_reduce_136, r_P_reduce_139, r_P_reduce_140, r_P_reduce_143, r_P_reduce_144, r_P_reduce_145, r_P_reduce_148, r_P_reduce_149, r_P_reduce_150, r_P_reduce_151, r_P_reduce_154, r_P_reduce_155, r_P_reduce_156, r_P_reduce_157, r_P_reduce_158, r_P_reduce_161, r_P_reduce_162, r_P_reduce_163, r_P_reduce_164, r_P_reduce_167, r_P_reduce_168, r_P_reduce_169, r_P_reduce_172, r_P_reduce_173, c_P_reduce_176 (hbits _), r_P_reduce_179, r_P_reduce_181, r_P_reduce_182, r_P_reduce_184, r_P_reduce_187, r_P_reduce_188, r_P_reduce_189, r_P_reduce_192, r_P_reduce_193, r_P_reduce_194, r_P_reduce_195, r_P_reduce_196, r_P_reduce_198, r_P_reduce_201, r_P_reduce_202, r_P_reduce_203, r_P_reduce_204, r_P_reduce_207, r_P_reduce_209, r_P_reduce_210, r_P_reduce_213, r_P_reduce_214, r_P_reduce_215, r_P_reduce_218, cf_wa_s, cf_wa_n, pk_us, pk_un, ne_eq, Nat.reduceEqDiff, not_false_eq_true, reduceCtorEq, f22, hle1, hp1, hge, hnn, ↓reduceIte, cf_wa_wa, hB22, hlt, cf_2m, hle2]
          by_cases hpn : cf_pop s ≤ n
          · rw [if_pos hpn, if_neg (show ¬ n < cf_pop s by omega)]
            refine ⟨_, rfl, ?_⟩
            refine ⟨by simp [upd], by simp [upd, b19, a19, f19], by simp [upd, hB22], fun k k1 k2 k3 => by simp [upd, k1, frB k k2, frA k k2, fr k k1 k2 k3]⟩
          · rw [if_neg hpn, if_pos (show n < cf_pop s by omega)]
            have h9 := ih s (min (2 * n) (cf_pop s)) fB hs (by omega) (by omega) (by omega) hpa (by omega) (by omega) (by rw [frB 18 (by decide), frA 18 (by decide), f18]) (by rw [b19, a19, f19]) hB22 (fun k k1 k2 k3 => by rw [frB k k2, frA k k2, fr k k1 k2 k3])
            by_cases hq : cf_pop s ≤ 2 * n
            · rw [if_pos hq]
              rw [show min (2 * n) (cf_pop s) = cf_pop s by omega] at h9 ⊢
              exact h9 _ _
            · rw [if_neg hq]
              rw [show min (2 * n) (cf_pop s) = 2 * n by omega] at h9 ⊢
              exact h9 _ _
theorem lp_P_reduce0 {w : cf_Wd} {f : Nat → Int32} {c p : Nat} (hc : c < 14) (hp : p < 14) (h21 : f 21 = nI c) (hw : w 16 c = nI p) {Q : cf_Rs → Prop} (hQ : ∀ l3 l4, cf_wp T_P_reduce (62, [some (.inr 15), some (.inl (cf_chg (w 18) c p 8)), some (.inl (nI 8)), l3, l4], [], cf_wa w 15 f) Q) : ∀ d k, k + d = 8 → ∀ l3 l4, cf_wp T_P_reduce (4, [some (.inr 15), some (.inl (cf_chg (w 18) c p k)), some (.inl (nI k)), l3, l4], [], cf_wa w 15 f) Q := by
  intro d
  induction d with
  | zero =>
    intro k hk l3 l4
    have e : k = 8 := by omega
    subst e
    simp only [r_P_reduce_4, r_P_reduce_5, r_P_reduce_7, cf_ge88, ↓reduceIte]
    exact hQ l3 l4
  | succ d ih =>
    intro k hk l3 l4
    have h8 : k < 8 := by omega
    have ih1 := ih (k + 1) (by omega) l3 l4
    refine r_P_reduce_4.mpr ?_
    simp only [r_P_reduce_5, r_P_reduce_7, cf_ge8 h8, ↓reduceIte, r_P_reduce_10, r_P_reduce_11, r_P_reduce_14, r_P_reduce_16, r_P_reduce_17, r_P_reduce_20, r_P_reduce_21, r_P_reduce_22, r_P_reduce_23, r_P_reduce_24, r_P_reduce_25, r_P_reduce_28, r_P_reduce_30, r_P_reduce_31, r_P_reduce_34, r_P_reduce_35, r_P_reduce_38, r_P_reduce_39, r_P_reduce_40, r_P_reduce_41, r_P_reduce_42, r_P_reduce_43, r_P_reduce_46, r_P_reduce_47, r_P_reduce_48, r_P_reduce_49, r_P_reduce_50, r_P_reduce_51, r_P_reduce_54, r_P_reduce_55, r_P_reduce_56, r_P_reduce_59, cf_wa_s, cf_wa_n, pk_us, pk_un, ne_eq, Nat.reduceEqDiff, not_false_eq_true, reduceCtorEq, h21, hw, cf_8c, cf_in_nI hc (by decide), nI_clamp (show c < 2 ^ 31 by omega), cf_in_nI (show 8 * c + k < 112 by omega) (by decide), cf_in_nI (show 8 * p + k < 112 by omega) (by decide), nI_clamp (show 8 * c + k < 2 ^ 31 by omega), nI_clamp (show 8 * p + k < 2 ^ 31 by omega), true_and, nI_1]
    by_cases h : w 18 (8 * c + k) = w 18 (8 * p + k)
    · rw [if_pos h]
      rw [show cf_chg (w 18) c p (k + 1) = cf_chg (w 18) c p k from if_pos h] at ih1
      exact ih1
    · rw [if_neg h]
      rw [show cf_chg (w 18) c p (k + 1) = cf_chg (w 18) c p k ||| 1 <<< (nI k &&& 31) from if_neg h] at ih1
      exact ih1
theorem sp_P_reduce {w : cf_Wd} {f : Nat → Int32} {m c p al : Nat} (hm : m ≤ 600) (hc : c < 14) (hp : p < 14) (h11 : f 11 = nI m) (h18 : f 18 = 3) (h19 : f 19 = -1) (h21 : f 21 = nI c) (hw : w 16 c = nI p) (hal : al < 256) (hch : cf_chg (w 18) c p 8 = nI al) : ∃ w1, F_P_reduce [.inr 15] (cf_wa w 15 f) = some (none, w1) ∧ (∃ f', w1 = cf_wa w 15 f' ∧ cf_rfx f f' (cf_rd (fun t => cf_kn (w 20) (w 21) t m) 64 al 2)) := by
  have h8 := cf_pop8
  have hp8 := h8 al hal
  refine e_P_reduce ?_
  simp only [r_P_reduce_0, r_P_reduce_1, r_P_reduce_2, r_P_reduce_3]
  have h := lp_P_reduce0 (w := w) (f := f) hc hp h21 hw (Q := cf_qv (fun w1 => ∃ f', w1 = cf_wa w 15 f' ∧ cf_rfx f f' (cf_rd (fun t => cf_kn (w 20) (w 21) t m) 64 al 2))) (fun l3 l4 => by
    rw [hch]
    simp only [r_P_reduce_62, r_P_reduce_63, r_P_reduce_64, r_P_reduce_67, r_P_reduce_68, cf_wa_s, cf_wa_n, pk_us, pk_un, ne_eq, Nat.reduceEqDiff, not_false_eq_true, reduceCtorEq, cf_wa_wa]
    have e2 : (2 : Int32) = nI 2 := by decide +kernel
    have h9 := lp_P_reduce (w := w) hm hal (f0 := f) h11 64 al 2 (upd f 22 (nI al)) hal (by omega) (by omega) (by omega) (Nat.le_refl _) (by omega) (by omega) (by simp [upd, h18]) (by simp [upd, h19]) (by simp [upd]) (fun k k1 k2 k3 => by simp [upd, k3]) l3 l4
    rw [← e2] at h9
    exact h9) 8 0 (by omega) none none
  rw [nI_0] at h
  exact h
/-- what the reference's work finds: state, next, suspects, culprit, set; h: the halving's answer; R: the reducing's -/
def cf_tl (Fi Li : Nat → Int32) (V : Int32 → Int32) (R : Nat → Int32 × Int32) (h : Int32 × Int32 × Int32 × Int32) : Int32 × Int32 × Int32 × Int32 × Int32 :=
  if ¬ h.1 = 3 then (h.1, h.2.1, h.2.2.1, h.2.2.2, -1)
  else if Fi h.2.2.2.toNatClampNeg = -1 then (4, -1, h.2.2.1, h.2.2.2, -1)
  else if V (Fi h.2.2.2.toNatClampNeg) = 0 then (3, Fi h.2.2.2.toNatClampNeg, h.2.2.1, h.2.2.2, -1)
  else if ¬ V (Fi h.2.2.2.toNatClampNeg) = 1 then (4, -1, h.2.2.1, h.2.2.2, -1)
  else (if (R (cf_chg Li h.2.2.2.toNatClampNeg (Fi h.2.2.2.toNatClampNeg).toNatClampNeg 8).toBitVec.toNat).1 = -1 then 4 else 3, if (R (cf_chg Li h.2.2.2.toNatClampNeg (Fi h.2.2.2.toNatClampNeg).toNatClampNeg 8).toBitVec.toNat).1 = -1 then -1 else 1000 + (R (cf_chg Li h.2.2.2.toNatClampNeg (Fi h.2.2.2.toNatClampNeg).toNatClampNeg 8).toBitVec.toNat).1, h.2.2.1, h.2.2.2, (R (cf_chg Li h.2.2.2.toNatClampNeg (Fi h.2.2.2.toNatClampNeg).toNatClampNeg 8).toBitVec.toNat).2)
def cf_wk (A Fi Li : Nat → Int32) (N g b : Nat) (V : Int32 → Int32) : Int32 × Int32 × Int32 × Int32 × Int32 :=
  if V (nI b) = 0 then (1, nI b, 0, -1, -1)
  else if ¬ V (nI b) = 2 then (6, -1, 0, -1, -1)
  else if V (nI g) = 0 then (1, nI g, 0, -1, -1)
  else if ¬ V (nI g) = 1 then (6, -1, 0, -1, -1)
  else cf_tl Fi Li V (fun s => cf_rd V 64 s 2) (cf_hv A N V 16 b (1 <<< (nI b &&& 31) ||| 1 <<< (nI g &&& 31)) (A b &&& (A g ^^^ -1)))
def cf_f5 (f f' : Nat → Int32) (r : Int32 × Int32 × Int32 × Int32 × Int32) : Prop := f' 18 = r.1 ∧ f' 19 = r.2.1 ∧ f' 20 = r.2.2.1 ∧ f' 21 = r.2.2.2.1 ∧ f' 22 = r.2.2.2.2 ∧ ∀ k, k ≠ 18 → k ≠ 19 → k ≠ 20 → k ≠ 21 → k ≠ 22 → f' k = f k
theorem cf_hv_c {A : Nat → Int32} {N : Nat} {V : Int32 → Int32} (hN : N ≤ 14) : ∀ f wo T S, wo < N → (cf_hv A N V f wo T S).1 = 3 → ∃ c, c < N ∧ (cf_hv A N V f wo T S).2.2.2 = nI c ∧ (cf_hv A N V f wo T S).2.1 = -1 := by
  intro f
  induction f with
  | zero =>
    intro wo T S _ h
    have h : (2 : Int32) = 3 := h
    rw [cf_q_2_3] at h
    exact h.elim
  | succ f ih =>
    intro wo T S hwo h
    simp only [cf_hv] at h ⊢
    by_cases h1 : cf_mid A N S T wo = -1
    · rw [if_pos h1] at h ⊢
      by_cases h2 : S = 1 <<< (nI wo &&& 31)
      · rw [if_pos h2]
        exact ⟨wo, hwo, rfl, rfl⟩
      · rw [if_neg h2] at h
        have h : (5 : Int32) = 3 := h
        rw [cf_q_5_3] at h
        exact h.elim
    · rw [if_neg h1] at h ⊢
      by_cases h2 : V (cf_mid A N S T wo) = 0
      · rw [if_pos h2] at h
        have h : (2 : Int32) = 3 := h
        rw [cf_q_2_3] at h
        exact h.elim
      · rw [if_neg h2] at h ⊢
        refine ih _ _ _ ?_ h
        by_cases h3 : V (cf_mid A N S T wo) = 2
        · rw [if_pos h3]
          rcases cf_mid_c (A := A) (S := S) (T := T) (wo := wo) hN with e | ⟨c, hc, e, _⟩
          · exact absurd e h1
          · rw [e, nI_clamp (by omega)]
            exact hc
        · rw [if_neg h3]
          exact hwo
def cf_w5 (f : Nat → Int32) : Nat → Int32 := upd (upd (upd (upd (upd f 18 0) 19 (-1)) 20 0) 21 (-1)) 22 (-1)
theorem sp_P_work0 {w : cf_Wd} (h5 : w 15 5 = 0) : F_P_work [.inr 15] w = some (none, cf_wa w 15 (cf_w5 (w 15))) := by
  refine cf_isv (e_P_work ?_)
  simp only [r_P_work_0, r_P_work_1, r_P_work_2, r_P_work_5, r_P_work_6, r_P_work_7, r_P_work_10, r_P_work_11, r_P_work_12, r_P_work_15, r_P_work_16, r_P_work_17, r_P_work_20, r_P_work_21, r_P_work_22, r_P_work_25, r_P_work_26, r_P_work_29, r_P_work_32, r_P_work_33, r_P_work_36, r_P_work_39, r_P_work_40, r_P_work_43, r_P_work_46, r_P_work_47, r_P_work_48, r_P_work_51, r_P_work_52, r_P_work_55, r_P_work_56, r_P_work_57, r_P_work_58, r_P_work_61, r_P_work_62, r_P_work_63, r_P_work_66, r_P_work_67, r_P_work_68, r_P_work_69, r_P_work_72, r_P_work_73, r_P_work_74, r_P_work_77, r_P_work_78, r_P_work_79, r_P_work_80, r_P_work_81, r_P_work_84, r_P_work_85, r_P_work_88, r_P_work_89, r_P_work_92, r_P_work_93, r_P_work_94, r_P_work_97, r_P_work_98, r_P_work_101, cf_wa_s, cf_wa_n, pk_us, pk_un, ne_eq, Nat.reduceEqDiff, not_false_eq_true, reduceCtorEq, cf_wa_wa, h5, ↓reduceIte]
  rfl
theorem wk_tl {w : cf_Wd} {N m : Nat} (hN : N ≤ 14) (hm : m ≤ 600) (hF : ∀ c, c < N → w 16 c = -1 ∨ ∃ p, p < N ∧ w 16 c = nI p) {f1 f2 : Nat → Int32} (q11 : f1 11 = nI m) (q22 : f1 22 = -1) (qfr : ∀ k, k ≠ 18 → k ≠ 19 → k ≠ 20 → k ≠ 21 → k ≠ 22 → f1 k = w 15 k) {st nx S cu x2 : Int32} (hH : F_P_halve [.inr 15] (cf_wa w 15 f1) = some (some (.inl x2), cf_wa w 15 f2)) (hx2 : x2 = cf_b (decide (st = 3))) (r2 : cf_fx f1 f2 (st, nx, S, cu)) (hcc : st = 3 → ∃ c, c < N ∧ cu = nI c ∧ nx = -1) {R : Nat → Int32 × Int32} (hR : ∀ f c p al, c < 14 → p < 14 → f 11 = nI m → f 18 = 3 → f 19 = -1 → f 21 = nI c → w 16 c = nI p → al < 256 → cf_chg (w 18) c p 8 = nI al → ∃ w1, F_P_reduce [.inr 15] (cf_wa w 15 f) = some (none, w1) ∧ (∃ f', w1 = cf_wa w 15 f' ∧ cf_rfx f f' (R al))) : cf_wp T_P_work (39, [some (.inr 15), none, none], [], cf_wa w 15 f1) (cf_qv (fun w1 => ∃ f', w1 = cf_wa w 15 f' ∧ cf_f5 (w 15) f' (cf_tl (w 16) (w 18) (fun t => cf_kn (w 20) (w 21) t m) R (st, nx, S, cu)))) := by
  obtain ⟨b18, b19, b20, b21, bfr⟩ := r2
  have b18 : f2 18 = st := b18
  have b19 : f2 19 = nx := b19
  have b20 : f2 20 = S := b20
  have b21 : f2 21 = cu := b21
  have p22 : f2 22 = -1 := (bfr 22 (by decide) (by decide) (by decide) (by decide)).trans q22
  have p11 : f2 11 = nI m := (bfr 11 (by decide) (by decide) (by decide) (by decide)).trans q11
  have pfr : ∀ k, k ≠ 18 → k ≠ 19 → k ≠ 20 → k ≠ 21 → k ≠ 22 → f2 k = w 15 k := fun k k1 k2 k3 k4 k5 => (bfr k k1 k2 k3 k4).trans (qfr k k1 k2 k3 k4 k5)
  unfold cf_tl
  by_cases hst : st = 3
  · obtain ⟨c, hcN, ec, en⟩ := hcc hst
    subst ec
    subst en
    subst hst
    have hx2 : x2 = 1 := hx2
    subst hx2
    have hc14 : c < 14 := by omega
    have cl : (nI c).toNatClampNeg = c := nI_clamp (by omega)
    simp only [cl, not_true_eq_false, ↓reduceIte]
    rcases hF c hcN with hp | ⟨p, hpN, hp⟩
    · have hge : ((0 : Int32) ≤ -1) = False := eq_false (by decide)
      rw [if_pos hp]
      simp only [r_P_work_0, r_P_work_1, r_P_work_2, r_P_work_5, r_P_work_6, r_P_work_7, r_P_work_10, r_P_work_11, r_P_work_12, r_P_work_15, r_P_work_16, r_P_work_17, r_P_work_20, r_P_work_21, r_P_work_22, r_P_work_25, r_P_work_26, r_P_work_29, r_P_work_32, r_P_work_33, r_P_work_36, r_P_work_39, c_P_work_40 (hH), r_P_work_43, r_P_work_46, r_P_work_47, r_P_work_48, r_P_work_51, r_P_work_52, r_P_work_55, r_P_work_56, r_P_work_57, r_P_work_58, r_P_work_61, r_P_work_62, r_P_work_63, r_P_work_66, r_P_work_67, r_P_work_68, r_P_work_69, r_P_work_72, r_P_work_73, r_P_work_74, r_P_work_77, r_P_work_78, r_P_work_79, r_P_work_80, r_P_work_81, r_P_work_84, r_P_work_85, r_P_work_88, r_P_work_89, r_P_work_92, r_P_work_93, r_P_work_94, r_P_work_97, r_P_work_98, r_P_work_101, cf_wa_s, cf_wa_n, pk_us, pk_un, ne_eq, Nat.reduceEqDiff, not_false_eq_true, reduceCtorEq, cf_wa_wa, cf_q_0_1, cf_q_0_2, cf_q_0_3, cf_q_0_4, cf_q_0_5, cf_q_0_6, cf_q_0_7, cf_q_0_8, cf_q_0_9, cf_q_1_0, cf_q_1_2, cf_q_1_3, cf_q_1_4, cf_q_1_5, cf_q_1_6, cf_q_1_7, cf_q_1_8, cf_q_1_9, cf_q_2_0, cf_q_2_1, cf_q_2_3, cf_q_2_4, cf_q_2_5, cf_q_2_6, cf_q_2_7, cf_q_2_8, cf_q_2_9, cf_q_3_0, cf_q_3_1, cf_q_3_2, cf_q_3_4, cf_q_3_5, cf_q_3_6, cf_q_3_7, cf_q_3_8, cf_q_3_9, cf_q_4_0, cf_q_4_1, cf_q_4_2, cf_q_4_3, cf_q_4_5, cf_q_4_6, cf_q_4_7, cf_q_4_8, cf_q_4_9, cf_q_5_0, cf_q_5_1, cf_q_5_2, cf_q_5_3, cf_q_5_4, cf_q_5_6, cf_q_5_7, cf_q_5_8, cf_q_5_9, cf_q_6_0, cf_q_6_1, cf_q_6_2, cf_q_6_3, cf_q_6_4, cf_q_6_5, cf_q_6_7, cf_q_6_8, cf_q_6_9, cf_q_7_0, cf_q_7_1, cf_q_7_2, cf_q_7_3, cf_q_7_4, cf_q_7_5, cf_q_7_6, cf_q_7_8, cf_q_7_9, cf_q_8_0, cf_q_8_1, cf_q_8_2, cf_q_8_3, cf_q_8_4, cf_q_8_5, cf_q_8_6, cf_q_8_7, cf_q_8_9, cf_q_9_0, cf_q_9_1, cf_q_9_2, cf_q_9_3, cf_q_9_4, cf_q_9_5, cf_q_9_6, cf_q_9_7, cf_q_9_8, ↓reduceIte, not_false_eq_true, b21, cf_in_nI hc14 (by decide), cl, true_and, hp, hge]
      refine ⟨_, rfl, ?_⟩
      exact ⟨by simp [upd], by simp [upd, b19], by simp [upd, b20], by simp [upd, b21], by simp [upd, p22], fun k k1 k2 k3 k4 k5 => by simp [upd, k1, pfr k k1 k2 k3 k4 k5]⟩
    · have hge : ((0 : Int32) ≤ nI p) = True := eq_true (nI_pos' (by omega))
      have hpm : ¬ nI p = -1 := by rw [cf_m1 (by omega)]; exact id
      have hask := sp_P_ask (w := w) (f := f2) (t := nI p) hm p11
      have clp : (nI p).toNatClampNeg = p := nI_clamp (by omega)
      rw [if_neg (by rw [hp]; exact hpm)]
      simp only [hp, clp]
      by_cases hv0 : cf_kn (w 20) (w 21) (nI p) m = 0
      · rw [if_pos hv0]
        rw [if_pos hv0, hv0] at hask
        simp only [r_P_work_0, r_P_work_1, r_P_work_2, r_P_work_5, r_P_work_6, r_P_work_7, r_P_work_10, r_P_work_11, r_P_work_12, r_P_work_15, r_P_work_16, r_P_work_17, r_P_work_20, r_P_work_21, r_P_work_22, r_P_work_25, r_P_work_26, r_P_work_29, r_P_work_32, r_P_work_33, r_P_work_36, r_P_work_39, c_P_work_40 (hH), r_P_work_43, r_P_work_46, r_P_work_47, r_P_work_48, r_P_work_51, r_P_work_52, r_P_work_55, r_P_work_56, r_P_work_57, r_P_work_58, r_P_work_61, r_P_work_62, r_P_work_63, r_P_work_66, r_P_work_67, r_P_work_68, c_P_work_69 (hask), r_P_work_72, r_P_work_73, r_P_work_74, r_P_work_77, r_P_work_78, r_P_work_79, r_P_work_80, r_P_work_81, r_P_work_84, r_P_work_85, r_P_work_88, r_P_work_89, r_P_work_92, r_P_work_93, r_P_work_94, r_P_work_97, r_P_work_98, r_P_work_101, cf_wa_s, cf_wa_n, pk_us, pk_un, ne_eq, Nat.reduceEqDiff, not_false_eq_true, reduceCtorEq, cf_wa_wa, cf_q_0_1, cf_q_0_2, cf_q_0_3, cf_q_0_4, cf_q_0_5, cf_q_0_6, cf_q_0_7, cf_q_0_8, cf_q_0_9, cf_q_1_0, cf_q_1_2, cf_q_1_3, cf_q_1_4, cf_q_1_5, cf_q_1_6, cf_q_1_7, cf_q_1_8, cf_q_1_9, cf_q_2_0, cf_q_2_1, cf_q_2_3, cf_q_2_4, cf_q_2_5, cf_q_2_6, cf_q_2_7, cf_q_2_8, cf_q_2_9, cf_q_3_0, cf_q_3_1, cf_q_3_2, cf_q_3_4, cf_q_3_5, cf_q_3_6, cf_q_3_7, cf_q_3_8, cf_q_3_9, cf_q_4_0, cf_q_4_1, cf_q_4_2, cf_q_4_3, cf_q_4_5, cf_q_4_6, cf_q_4_7, cf_q_4_8, cf_q_4_9, cf_q_5_0, cf_q_5_1, cf_q_5_2, cf_q_5_3, cf_q_5_4, cf_q_5_6, cf_q_5_7, cf_q_5_8, cf_q_5_9, cf_q_6_0, cf_q_6_1, cf_q_6_2, cf_q_6_3, cf_q_6_4, cf_q_6_5, cf_q_6_7, cf_q_6_8, cf_q_6_9, cf_q_7_0, cf_q_7_1, cf_q_7_2, cf_q_7_3, cf_q_7_4, cf_q_7_5, cf_q_7_6, cf_q_7_8, cf_q_7_9, cf_q_8_0, cf_q_8_1, cf_q_8_2, cf_q_8_3, cf_q_8_4, cf_q_8_5, cf_q_8_6, cf_q_8_7, cf_q_8_9, cf_q_9_0, cf_q_9_1, cf_q_9_2, cf_q_9_3, cf_q_9_4, cf_q_9_5, cf_q_9_6, cf_q_9_7, cf_q_9_8, ↓reduceIte, not_true_eq_false, not_false_eq_true, b21, cf_in_nI hc14 (by decide), cl, true_and, hp, hge]
        refine ⟨_, rfl, ?_⟩
        exact ⟨by simp [upd, b18], by simp [upd], by simp [upd, b20], by simp [upd, b21], by simp [upd, p22], fun k k1 k2 k3 k4 k5 => by simp [upd, k2, pfr k k1 k2 k3 k4 k5]⟩
      · rw [if_neg hv0]
        rw [if_neg hv0] at hask
        by_cases hv1 : cf_kn (w 20) (w 21) (nI p) m = 1
        · rw [if_neg (fun x => x hv1)]
          rw [hv1] at hask
          obtain ⟨al, hal, eal⟩ := cf_chg_256 (f := w 18) (n := c) (m := p)
          rw [eal, cf_nIt hal]
          obtain ⟨w5, hR5, f5, e5, r5⟩ := hR (upd (upd f2 19 (f2 19)) 18 3) c p al hc14 (show p < 14 by omega) (by simp [upd, p11]) (by simp [upd]) (by simp [upd, b19]) (by simp [upd, b21]) hp hal eal
          rw [e5] at hR5
          simp only [r_P_work_0, r_P_work_1, r_P_work_2, r_P_work_5, r_P_work_6, r_P_work_7, r_P_work_10, r_P_work_11, r_P_work_12, r_P_work_15, r_P_work_16, r_P_work_17, r_P_work_20, r_P_work_21, r_P_work_22, r_P_work_25, r_P_work_26, r_P_work_29, r_P_work_32, r_P_work_33, r_P_work_36, r_P_work_39, c_P_work_40 (hH), r_P_work_43, r_P_work_46, r_P_work_47, r_P_work_48, r_P_work_51, r_P_work_52, r_P_work_55, r_P_work_56, r_P_work_57, r_P_work_58, r_P_work_61, r_P_work_62, r_P_work_63, r_P_work_66, r_P_work_67, r_P_work_68, c_P_work_69 (hask), r_P_work_72, r_P_work_73, r_P_work_74, r_P_work_77, r_P_work_78, r_P_work_79, r_P_work_80, r_P_work_81, r_P_work_84, r_P_work_85, r_P_work_88, r_P_work_89, r_P_work_92, r_P_work_93, r_P_work_94, r_P_work_97, c_P_work_98 (hR5), r_P_work_101, cf_wa_s, cf_wa_n, pk_us, pk_un, ne_eq, Nat.reduceEqDiff, not_false_eq_true, reduceCtorEq, cf_wa_wa, cf_q_0_1, cf_q_0_2, cf_q_0_3, cf_q_0_4, cf_q_0_5, cf_q_0_6, cf_q_0_7, cf_q_0_8, cf_q_0_9, cf_q_1_0, cf_q_1_2, cf_q_1_3, cf_q_1_4, cf_q_1_5, cf_q_1_6, cf_q_1_7, cf_q_1_8, cf_q_1_9, cf_q_2_0, cf_q_2_1, cf_q_2_3, cf_q_2_4, cf_q_2_5, cf_q_2_6, cf_q_2_7, cf_q_2_8, cf_q_2_9, cf_q_3_0, cf_q_3_1, cf_q_3_2, cf_q_3_4, cf_q_3_5, cf_q_3_6, cf_q_3_7, cf_q_3_8, cf_q_3_9, cf_q_4_0, cf_q_4_1, cf_q_4_2, cf_q_4_3, cf_q_4_5, cf_q_4_6, cf_q_4_7, cf_q_4_8, cf_q_4_9, cf_q_5_0, cf_q_5_1, cf_q_5_2, cf_q_5_3, cf_q_5_4, cf_q_5_6, cf_q_5_7, cf_q_5_8, cf_q_5_9, cf_q_6_0, cf_q_6_1, cf_q_6_2, cf_q_6_3, cf_q_6_4, cf_q_6_5, cf_q_6_7, cf_q_6_8, cf_q_6_9, cf_q_7_0, cf_q_7_1, cf_q_7_2, cf_q_7_3, cf_q_7_4, cf_q_7_5, cf_q_7_6, cf_q_7_8, cf_q_7_9, cf_q_8_0, cf_q_8_1, cf_q_8_2, cf_q_8_3, cf_q_8_4, cf_q_8_5, cf_q_8_6, cf_q_8_7, cf_q_8_9, cf_q_9_0, cf_q_9_1, cf_q_9_2, cf_q_9_3, cf_q_9_4, cf_q_9_5, cf_q_9_6, cf_q_9_7, cf_q_9_8, ↓reduceIte, not_true_eq_false, not_false_eq_true, b21, cf_in_nI hc14 (by decide), cl, true_and, hp, hge]
          refine ⟨f5, rfl, ?_⟩
          obtain ⟨c18, c19, c22, cfr⟩ := r5
          exact ⟨c18, c19, by rw [cfr 20 (by decide) (by decide) (by decide)]; simp [upd, b20], by rw [cfr 21 (by decide) (by decide) (by decide)]; simp [upd, b21], c22, fun k k1 k2 k3 k4 k5 => by rw [cfr k k1 k2 k5]; simp [upd, k1, k2, pfr k k1 k2 k3 k4 k5]⟩
        · rw [if_pos hv1]
          simp only [r_P_work_0, r_P_work_1, r_P_work_2, r_P_work_5, r_P_work_6, r_P_work_7, r_P_work_10, r_P_work_11, r_P_work_12, r_P_work_15, r_P_work_16, r_P_work_17, r_P_work_20, r_P_work_21, r_P_work_22, r_P_work_25, r_P_work_26, r_P_work_29, r_P_work_32, r_P_work_33, r_P_work_36, r_P_work_39, c_P_work_40 (hH), r_P_work_43, r_P_work_46, r_P_work_47, r_P_work_48, r_P_work_51, r_P_work_52, r_P_work_55, r_P_work_56, r_P_work_57, r_P_work_58, r_P_work_61, r_P_work_62, r_P_work_63, r_P_work_66, r_P_work_67, r_P_work_68, c_P_work_69 (hask), r_P_work_72, r_P_work_73, r_P_work_74, r_P_work_77, r_P_work_78, r_P_work_79, r_P_work_80, r_P_work_81, r_P_work_84, r_P_work_85, r_P_work_88, r_P_work_89, r_P_work_92, r_P_work_93, r_P_work_94, r_P_work_97, r_P_work_98, r_P_work_101, cf_wa_s, cf_wa_n, pk_us, pk_un, ne_eq, Nat.reduceEqDiff, not_false_eq_true, reduceCtorEq, cf_wa_wa, cf_q_0_1, cf_q_0_2, cf_q_0_3, cf_q_0_4, cf_q_0_5, cf_q_0_6, cf_q_0_7, cf_q_0_8, cf_q_0_9, cf_q_1_0, cf_q_1_2, cf_q_1_3, cf_q_1_4, cf_q_1_5, cf_q_1_6, cf_q_1_7, cf_q_1_8, cf_q_1_9, cf_q_2_0, cf_q_2_1, cf_q_2_3, cf_q_2_4, cf_q_2_5, cf_q_2_6, cf_q_2_7, cf_q_2_8, cf_q_2_9, cf_q_3_0, cf_q_3_1, cf_q_3_2, cf_q_3_4, cf_q_3_5, cf_q_3_6, cf_q_3_7, cf_q_3_8, cf_q_3_9, cf_q_4_0, cf_q_4_1, cf_q_4_2, cf_q_4_3, cf_q_4_5, cf_q_4_6, cf_q_4_7, cf_q_4_8, cf_q_4_9, cf_q_5_0, cf_q_5_1, cf_q_5_2, cf_q_5_3, cf_q_5_4, cf_q_5_6, cf_q_5_7, cf_q_5_8, cf_q_5_9, cf_q_6_0, cf_q_6_1, cf_q_6_2, cf_q_6_3, cf_q_6_4, cf_q_6_5, cf_q_6_7, cf_q_6_8, cf_q_6_9, cf_q_7_0, cf_q_7_1, cf_q_7_2, cf_q_7_3, cf_q_7_4, cf_q_7_5, cf_q_7_6, cf_q_7_8, cf_q_7_9, cf_q_8_0, cf_q_8_1, cf_q_8_2, cf_q_8_3, cf_q_8_4, cf_q_8_5, cf_q_8_6, cf_q_8_7, cf_q_8_9, cf_q_9_0, cf_q_9_1, cf_q_9_2, cf_q_9_3, cf_q_9_4, cf_q_9_5, cf_q_9_6, cf_q_9_7, cf_q_9_8, ↓reduceIte, not_true_eq_false, not_false_eq_true, b21, cf_in_nI hc14 (by decide), cl, true_and, hp, hge, hv0, hv1]
          refine ⟨_, rfl, ?_⟩
          exact ⟨by simp [upd], by simp [upd, b19], by simp [upd, b20], by simp [upd, b21], by simp [upd, p22], fun k k1 k2 k3 k4 k5 => by simp [upd, k1, k2, pfr k k1 k2 k3 k4 k5]⟩
  · have hx2 : x2 = 0 := by
      rw [hx2]
      simp [cf_b, hst]
    subst hx2
    simp only [r_P_work_0, r_P_work_1, r_P_work_2, r_P_work_5, r_P_work_6, r_P_work_7, r_P_work_10, r_P_work_11, r_P_work_12, r_P_work_15, r_P_work_16, r_P_work_17, r_P_work_20, r_P_work_21, r_P_work_22, r_P_work_25, r_P_work_26, r_P_work_29, r_P_work_32, r_P_work_33, r_P_work_36, r_P_work_39, c_P_work_40 (hH), r_P_work_43, r_P_work_46, r_P_work_47, r_P_work_48, r_P_work_51, r_P_work_52, r_P_work_55, r_P_work_56, r_P_work_57, r_P_work_58, r_P_work_61, r_P_work_62, r_P_work_63, r_P_work_66, r_P_work_67, r_P_work_68, r_P_work_69, r_P_work_72, r_P_work_73, r_P_work_74, r_P_work_77, r_P_work_78, r_P_work_79, r_P_work_80, r_P_work_81, r_P_work_84, r_P_work_85, r_P_work_88, r_P_work_89, r_P_work_92, r_P_work_93, r_P_work_94, r_P_work_97, r_P_work_98, r_P_work_101, cf_wa_s, cf_wa_n, pk_us, pk_un, ne_eq, Nat.reduceEqDiff, not_false_eq_true, reduceCtorEq, cf_wa_wa, cf_q_0_1, cf_q_0_2, cf_q_0_3, cf_q_0_4, cf_q_0_5, cf_q_0_6, cf_q_0_7, cf_q_0_8, cf_q_0_9, cf_q_1_0, cf_q_1_2, cf_q_1_3, cf_q_1_4, cf_q_1_5, cf_q_1_6, cf_q_1_7, cf_q_1_8, cf_q_1_9, cf_q_2_0, cf_q_2_1, cf_q_2_3, cf_q_2_4, cf_q_2_5, cf_q_2_6, cf_q_2_7, cf_q_2_8, cf_q_2_9, cf_q_3_0, cf_q_3_1, cf_q_3_2, cf_q_3_4, cf_q_3_5, cf_q_3_6, cf_q_3_7, cf_q_3_8, cf_q_3_9, cf_q_4_0, cf_q_4_1, cf_q_4_2, cf_q_4_3, cf_q_4_5, cf_q_4_6, cf_q_4_7, cf_q_4_8, cf_q_4_9, cf_q_5_0, cf_q_5_1, cf_q_5_2, cf_q_5_3, cf_q_5_4, cf_q_5_6, cf_q_5_7, cf_q_5_8, cf_q_5_9, cf_q_6_0, cf_q_6_1, cf_q_6_2, cf_q_6_3, cf_q_6_4, cf_q_6_5, cf_q_6_7, cf_q_6_8, cf_q_6_9, cf_q_7_0, cf_q_7_1, cf_q_7_2, cf_q_7_3, cf_q_7_4, cf_q_7_5, cf_q_7_6, cf_q_7_8, cf_q_7_9, cf_q_8_0, cf_q_8_1, cf_q_8_2, cf_q_8_3, cf_q_8_4, cf_q_8_5, cf_q_8_6, cf_q_8_7, cf_q_8_9, cf_q_9_0, cf_q_9_1, cf_q_9_2, cf_q_9_3, cf_q_9_4, cf_q_9_5, cf_q_9_6, cf_q_9_7, cf_q_9_8, ↓reduceIte, not_true_eq_false, hst, not_false_eq_true]
    exact ⟨f2, rfl, b18, b19, b20, b21, p22, pfr⟩
theorem sp_P_work {w : cf_Wd} {N m g b : Nat} (hN : N ≤ 14) (hm : m ≤ 600) (h0 : w 15 0 = nI N) (h5 : w 15 5 = 1) (h6 : w 15 6 = nI g) (h7 : w 15 7 = nI b) (h11 : w 15 11 = nI m) (hg : g < N) (hb : b < N) (hA : ∀ c, c < N → cf_m14 (w 19 c)) (hF : ∀ c, c < N → w 16 c = -1 ∨ ∃ p, p < N ∧ w 16 c = nI p) : ∃ w1, F_P_work [.inr 15] w = some (none, w1) ∧ (∃ f', w1 = cf_wa w 15 f' ∧ cf_f5 (w 15) f' (cf_wk (w 19) (w 16) (w 18) N g b (fun t => cf_kn (w 20) (w 21) t m))) := by
  refine e_P_work ?_
  have g0 : cf_w5 (w 15) 0 = nI N := by simp [cf_w5, upd, h0]
  have g6 : cf_w5 (w 15) 6 = nI g := by simp [cf_w5, upd, h6]
  have g7 : cf_w5 (w 15) 7 = nI b := by simp [cf_w5, upd, h7]
  have g11 : cf_w5 (w 15) 11 = nI m := by simp [cf_w5, upd, h11]
  have g19 : cf_w5 (w 15) 19 = -1 := by simp [cf_w5, upd]
  have g20 : cf_w5 (w 15) 20 = 0 := by simp [cf_w5, upd]
  have g21 : cf_w5 (w 15) 21 = -1 := by simp [cf_w5, upd]
  have g22 : cf_w5 (w 15) 22 = -1 := by simp [cf_w5, upd]
  have gfr : ∀ k, k ≠ 18 → k ≠ 19 → k ≠ 20 → k ≠ 21 → k ≠ 22 → cf_w5 (w 15) k = w 15 k := fun k k1 k2 k3 k4 k5 => by simp [cf_w5, upd, k1, k2, k3, k4, k5]
  obtain ⟨x1, w1, hE, f1, e1, fr1, r1⟩ := sp_P_ends (w := w) hm g11 g6 g7 g19
  rw [e1] at hE
  have hE' : F_P_ends [.inr 15] (cf_wa w 15 (upd (upd (upd (upd (upd (w 15) 18 0) 19 (-1)) 20 0) 21 (-1)) 22 (-1))) = some (some (.inl x1), cf_wa w 15 f1) := hE
  have q0 : f1 0 = nI N := (fr1 0 (by decide) (by decide)).trans g0
  have q6 : f1 6 = nI g := (fr1 6 (by decide) (by decide)).trans g6
  have q7 : f1 7 = nI b := (fr1 7 (by decide) (by decide)).trans g7
  have q11 : f1 11 = nI m := (fr1 11 (by decide) (by decide)).trans g11
  have q20 : f1 20 = 0 := (fr1 20 (by decide) (by decide)).trans g20
  have q21 : f1 21 = -1 := (fr1 21 (by decide) (by decide)).trans g21
  have q22 : f1 22 = -1 := (fr1 22 (by decide) (by decide)).trans g22
  have qfr : ∀ k, k ≠ 18 → k ≠ 19 → k ≠ 20 → k ≠ 21 → k ≠ 22 → f1 k = w 15 k := fun k k1 k2 k3 k4 k5 => (fr1 k k1 k2).trans (gfr k k1 k2 k3 k4 k5)
  rcases r1 with ⟨v1, rfl, a18, a19⟩ | ⟨v1, v2, rfl, a18, a19⟩ | ⟨v1, v2, rfl, a18, a19⟩ | ⟨v1, v2, v3, rfl, a18, a19⟩ | ⟨v1, v2, rfl, a18, a19⟩
  · simp only [r_P_work_0, r_P_work_1, r_P_work_2, r_P_work_5, r_P_work_6, r_P_work_7, r_P_work_10, r_P_work_11, r_P_work_12, r_P_work_15, r_P_work_16, r_P_work_17, r_P_work_20, r_P_work_21, r_P_work_22, r_P_work_25, r_P_work_26, r_P_work_29, r_P_work_32, c_P_work_33 (hE'), r_P_work_36, r_P_work_39, r_P_work_40, r_P_work_43, r_P_work_46, r_P_work_47, r_P_work_48, r_P_work_51, r_P_work_52, r_P_work_55, r_P_work_56, r_P_work_57, r_P_work_58, r_P_work_61, r_P_work_62, r_P_work_63, r_P_work_66, r_P_work_67, r_P_work_68, r_P_work_69, r_P_work_72, r_P_work_73, r_P_work_74, r_P_work_77, r_P_work_78, r_P_work_79, r_P_work_80, r_P_work_81, r_P_work_84, r_P_work_85, r_P_work_88, r_P_work_89, r_P_work_92, r_P_work_93, r_P_work_94, r_P_work_97, r_P_work_98, r_P_work_101, cf_wa_s, cf_wa_n, pk_us, pk_un, ne_eq, Nat.reduceEqDiff, not_false_eq_true, reduceCtorEq, cf_wa_wa, h5, cf_q_0_1, cf_q_0_2, cf_q_0_3, cf_q_0_4, cf_q_0_5, cf_q_0_6, cf_q_0_7, cf_q_0_8, cf_q_0_9, cf_q_1_0, cf_q_1_2, cf_q_1_3, cf_q_1_4, cf_q_1_5, cf_q_1_6, cf_q_1_7, cf_q_1_8, cf_q_1_9, cf_q_2_0, cf_q_2_1, cf_q_2_3, cf_q_2_4, cf_q_2_5, cf_q_2_6, cf_q_2_7, cf_q_2_8, cf_q_2_9, cf_q_3_0, cf_q_3_1, cf_q_3_2, cf_q_3_4, cf_q_3_5, cf_q_3_6, cf_q_3_7, cf_q_3_8, cf_q_3_9, cf_q_4_0, cf_q_4_1, cf_q_4_2, cf_q_4_3, cf_q_4_5, cf_q_4_6, cf_q_4_7, cf_q_4_8, cf_q_4_9, cf_q_5_0, cf_q_5_1, cf_q_5_2, cf_q_5_3, cf_q_5_4, cf_q_5_6, cf_q_5_7, cf_q_5_8, cf_q_5_9, cf_q_6_0, cf_q_6_1, cf_q_6_2, cf_q_6_3, cf_q_6_4, cf_q_6_5, cf_q_6_7, cf_q_6_8, cf_q_6_9, cf_q_7_0, cf_q_7_1, cf_q_7_2, cf_q_7_3, cf_q_7_4, cf_q_7_5, cf_q_7_6, cf_q_7_8, cf_q_7_9, cf_q_8_0, cf_q_8_1, cf_q_8_2, cf_q_8_3, cf_q_8_4, cf_q_8_5, cf_q_8_6, cf_q_8_7, cf_q_8_9, cf_q_9_0, cf_q_9_1, cf_q_9_2, cf_q_9_3, cf_q_9_4, cf_q_9_5, cf_q_9_6, cf_q_9_7, cf_q_9_8, ↓reduceIte]
    refine ⟨f1, rfl, ?_⟩
    have ev : cf_wk (w 19) (w 16) (w 18) N g b (fun t => cf_kn (w 20) (w 21) t m) = (1, nI b, 0, -1, -1) := by
      unfold cf_wk
      simp only [v1, ↓reduceIte]
    rw [ev]
    exact ⟨a18, a19, q20, q21, q22, qfr⟩
  · simp only [r_P_work_0, r_P_work_1, r_P_work_2, r_P_work_5, r_P_work_6, r_P_work_7, r_P_work_10, r_P_work_11, r_P_work_12, r_P_work_15, r_P_work_16, r_P_work_17, r_P_work_20, r_P_work_21, r_P_work_22, r_P_work_25, r_P_work_26, r_P_work_29, r_P_work_32, c_P_work_33 (hE'), r_P_work_36, r_P_work_39, r_P_work_40, r_P_work_43, r_P_work_46, r_P_work_47, r_P_work_48, r_P_work_51, r_P_work_52, r_P_work_55, r_P_work_56, r_P_work_57, r_P_work_58, r_P_work_61, r_P_work_62, r_P_work_63, r_P_work_66, r_P_work_67, r_P_work_68, r_P_work_69, r_P_work_72, r_P_work_73, r_P_work_74, r_P_work_77, r_P_work_78, r_P_work_79, r_P_work_80, r_P_work_81, r_P_work_84, r_P_work_85, r_P_work_88, r_P_work_89, r_P_work_92, r_P_work_93, r_P_work_94, r_P_work_97, r_P_work_98, r_P_work_101, cf_wa_s, cf_wa_n, pk_us, pk_un, ne_eq, Nat.reduceEqDiff, not_false_eq_true, reduceCtorEq, cf_wa_wa, h5, cf_q_0_1, cf_q_0_2, cf_q_0_3, cf_q_0_4, cf_q_0_5, cf_q_0_6, cf_q_0_7, cf_q_0_8, cf_q_0_9, cf_q_1_0, cf_q_1_2, cf_q_1_3, cf_q_1_4, cf_q_1_5, cf_q_1_6, cf_q_1_7, cf_q_1_8, cf_q_1_9, cf_q_2_0, cf_q_2_1, cf_q_2_3, cf_q_2_4, cf_q_2_5, cf_q_2_6, cf_q_2_7, cf_q_2_8, cf_q_2_9, cf_q_3_0, cf_q_3_1, cf_q_3_2, cf_q_3_4, cf_q_3_5, cf_q_3_6, cf_q_3_7, cf_q_3_8, cf_q_3_9, cf_q_4_0, cf_q_4_1, cf_q_4_2, cf_q_4_3, cf_q_4_5, cf_q_4_6, cf_q_4_7, cf_q_4_8, cf_q_4_9, cf_q_5_0, cf_q_5_1, cf_q_5_2, cf_q_5_3, cf_q_5_4, cf_q_5_6, cf_q_5_7, cf_q_5_8, cf_q_5_9, cf_q_6_0, cf_q_6_1, cf_q_6_2, cf_q_6_3, cf_q_6_4, cf_q_6_5, cf_q_6_7, cf_q_6_8, cf_q_6_9, cf_q_7_0, cf_q_7_1, cf_q_7_2, cf_q_7_3, cf_q_7_4, cf_q_7_5, cf_q_7_6, cf_q_7_8, cf_q_7_9, cf_q_8_0, cf_q_8_1, cf_q_8_2, cf_q_8_3, cf_q_8_4, cf_q_8_5, cf_q_8_6, cf_q_8_7, cf_q_8_9, cf_q_9_0, cf_q_9_1, cf_q_9_2, cf_q_9_3, cf_q_9_4, cf_q_9_5, cf_q_9_6, cf_q_9_7, cf_q_9_8, ↓reduceIte]
    refine ⟨f1, rfl, ?_⟩
    have ev : cf_wk (w 19) (w 16) (w 18) N g b (fun t => cf_kn (w 20) (w 21) t m) = (6, -1, 0, -1, -1) := by
      unfold cf_wk
      simp only [v1, v2, ↓reduceIte, not_false_eq_true]
    rw [ev]
    exact ⟨a18, a19, q20, q21, q22, qfr⟩
  · simp only [r_P_work_0, r_P_work_1, r_P_work_2, r_P_work_5, r_P_work_6, r_P_work_7, r_P_work_10, r_P_work_11, r_P_work_12, r_P_work_15, r_P_work_16, r_P_work_17, r_P_work_20, r_P_work_21, r_P_work_22, r_P_work_25, r_P_work_26, r_P_work_29, r_P_work_32, c_P_work_33 (hE'), r_P_work_36, r_P_work_39, r_P_work_40, r_P_work_43, r_P_work_46, r_P_work_47, r_P_work_48, r_P_work_51, r_P_work_52, r_P_work_55, r_P_work_56, r_P_work_57, r_P_work_58, r_P_work_61, r_P_work_62, r_P_work_63, r_P_work_66, r_P_work_67, r_P_work_68, r_P_work_69, r_P_work_72, r_P_work_73, r_P_work_74, r_P_work_77, r_P_work_78, r_P_work_79, r_P_work_80, r_P_work_81, r_P_work_84, r_P_work_85, r_P_work_88, r_P_work_89, r_P_work_92, r_P_work_93, r_P_work_94, r_P_work_97, r_P_work_98, r_P_work_101, cf_wa_s, cf_wa_n, pk_us, pk_un, ne_eq, Nat.reduceEqDiff, not_false_eq_true, reduceCtorEq, cf_wa_wa, h5, cf_q_0_1, cf_q_0_2, cf_q_0_3, cf_q_0_4, cf_q_0_5, cf_q_0_6, cf_q_0_7, cf_q_0_8, cf_q_0_9, cf_q_1_0, cf_q_1_2, cf_q_1_3, cf_q_1_4, cf_q_1_5, cf_q_1_6, cf_q_1_7, cf_q_1_8, cf_q_1_9, cf_q_2_0, cf_q_2_1, cf_q_2_3, cf_q_2_4, cf_q_2_5, cf_q_2_6, cf_q_2_7, cf_q_2_8, cf_q_2_9, cf_q_3_0, cf_q_3_1, cf_q_3_2, cf_q_3_4, cf_q_3_5, cf_q_3_6, cf_q_3_7, cf_q_3_8, cf_q_3_9, cf_q_4_0, cf_q_4_1, cf_q_4_2, cf_q_4_3, cf_q_4_5, cf_q_4_6, cf_q_4_7, cf_q_4_8, cf_q_4_9, cf_q_5_0, cf_q_5_1, cf_q_5_2, cf_q_5_3, cf_q_5_4, cf_q_5_6, cf_q_5_7, cf_q_5_8, cf_q_5_9, cf_q_6_0, cf_q_6_1, cf_q_6_2, cf_q_6_3, cf_q_6_4, cf_q_6_5, cf_q_6_7, cf_q_6_8, cf_q_6_9, cf_q_7_0, cf_q_7_1, cf_q_7_2, cf_q_7_3, cf_q_7_4, cf_q_7_5, cf_q_7_6, cf_q_7_8, cf_q_7_9, cf_q_8_0, cf_q_8_1, cf_q_8_2, cf_q_8_3, cf_q_8_4, cf_q_8_5, cf_q_8_6, cf_q_8_7, cf_q_8_9, cf_q_9_0, cf_q_9_1, cf_q_9_2, cf_q_9_3, cf_q_9_4, cf_q_9_5, cf_q_9_6, cf_q_9_7, cf_q_9_8, ↓reduceIte]
    refine ⟨f1, rfl, ?_⟩
    have ev : cf_wk (w 19) (w 16) (w 18) N g b (fun t => cf_kn (w 20) (w 21) t m) = (1, nI g, 0, -1, -1) := by
      unfold cf_wk
      simp only [v1, v2, cf_q_0_1, cf_q_0_2, cf_q_0_3, cf_q_0_4, cf_q_0_5, cf_q_0_6, cf_q_0_7, cf_q_0_8, cf_q_0_9, cf_q_1_0, cf_q_1_2, cf_q_1_3, cf_q_1_4, cf_q_1_5, cf_q_1_6, cf_q_1_7, cf_q_1_8, cf_q_1_9, cf_q_2_0, cf_q_2_1, cf_q_2_3, cf_q_2_4, cf_q_2_5, cf_q_2_6, cf_q_2_7, cf_q_2_8, cf_q_2_9, cf_q_3_0, cf_q_3_1, cf_q_3_2, cf_q_3_4, cf_q_3_5, cf_q_3_6, cf_q_3_7, cf_q_3_8, cf_q_3_9, cf_q_4_0, cf_q_4_1, cf_q_4_2, cf_q_4_3, cf_q_4_5, cf_q_4_6, cf_q_4_7, cf_q_4_8, cf_q_4_9, cf_q_5_0, cf_q_5_1, cf_q_5_2, cf_q_5_3, cf_q_5_4, cf_q_5_6, cf_q_5_7, cf_q_5_8, cf_q_5_9, cf_q_6_0, cf_q_6_1, cf_q_6_2, cf_q_6_3, cf_q_6_4, cf_q_6_5, cf_q_6_7, cf_q_6_8, cf_q_6_9, cf_q_7_0, cf_q_7_1, cf_q_7_2, cf_q_7_3, cf_q_7_4, cf_q_7_5, cf_q_7_6, cf_q_7_8, cf_q_7_9, cf_q_8_0, cf_q_8_1, cf_q_8_2, cf_q_8_3, cf_q_8_4, cf_q_8_5, cf_q_8_6, cf_q_8_7, cf_q_8_9, cf_q_9_0, cf_q_9_1, cf_q_9_2, cf_q_9_3, cf_q_9_4, cf_q_9_5, cf_q_9_6, cf_q_9_7, cf_q_9_8, ↓reduceIte, not_true_eq_false]
    rw [ev]
    exact ⟨a18, a19, q20, q21, q22, qfr⟩
  · simp only [r_P_work_0, r_P_work_1, r_P_work_2, r_P_work_5, r_P_work_6, r_P_work_7, r_P_work_10, r_P_work_11, r_P_work_12, r_P_work_15, r_P_work_16, r_P_work_17, r_P_work_20, r_P_work_21, r_P_work_22, r_P_work_25, r_P_work_26, r_P_work_29, r_P_work_32, c_P_work_33 (hE'), r_P_work_36, r_P_work_39, r_P_work_40, r_P_work_43, r_P_work_46, r_P_work_47, r_P_work_48, r_P_work_51, r_P_work_52, r_P_work_55, r_P_work_56, r_P_work_57, r_P_work_58, r_P_work_61, r_P_work_62, r_P_work_63, r_P_work_66, r_P_work_67, r_P_work_68, r_P_work_69, r_P_work_72, r_P_work_73, r_P_work_74, r_P_work_77, r_P_work_78, r_P_work_79, r_P_work_80, r_P_work_81, r_P_work_84, r_P_work_85, r_P_work_88, r_P_work_89, r_P_work_92, r_P_work_93, r_P_work_94, r_P_work_97, r_P_work_98, r_P_work_101, cf_wa_s, cf_wa_n, pk_us, pk_un, ne_eq, Nat.reduceEqDiff, not_false_eq_true, reduceCtorEq, cf_wa_wa, h5, cf_q_0_1, cf_q_0_2, cf_q_0_3, cf_q_0_4, cf_q_0_5, cf_q_0_6, cf_q_0_7, cf_q_0_8, cf_q_0_9, cf_q_1_0, cf_q_1_2, cf_q_1_3, cf_q_1_4, cf_q_1_5, cf_q_1_6, cf_q_1_7, cf_q_1_8, cf_q_1_9, cf_q_2_0, cf_q_2_1, cf_q_2_3, cf_q_2_4, cf_q_2_5, cf_q_2_6, cf_q_2_7, cf_q_2_8, cf_q_2_9, cf_q_3_0, cf_q_3_1, cf_q_3_2, cf_q_3_4, cf_q_3_5, cf_q_3_6, cf_q_3_7, cf_q_3_8, cf_q_3_9, cf_q_4_0, cf_q_4_1, cf_q_4_2, cf_q_4_3, cf_q_4_5, cf_q_4_6, cf_q_4_7, cf_q_4_8, cf_q_4_9, cf_q_5_0, cf_q_5_1, cf_q_5_2, cf_q_5_3, cf_q_5_4, cf_q_5_6, cf_q_5_7, cf_q_5_8, cf_q_5_9, cf_q_6_0, cf_q_6_1, cf_q_6_2, cf_q_6_3, cf_q_6_4, cf_q_6_5, cf_q_6_7, cf_q_6_8, cf_q_6_9, cf_q_7_0, cf_q_7_1, cf_q_7_2, cf_q_7_3, cf_q_7_4, cf_q_7_5, cf_q_7_6, cf_q_7_8, cf_q_7_9, cf_q_8_0, cf_q_8_1, cf_q_8_2, cf_q_8_3, cf_q_8_4, cf_q_8_5, cf_q_8_6, cf_q_8_7, cf_q_8_9, cf_q_9_0, cf_q_9_1, cf_q_9_2, cf_q_9_3, cf_q_9_4, cf_q_9_5, cf_q_9_6, cf_q_9_7, cf_q_9_8, ↓reduceIte]
    refine ⟨f1, rfl, ?_⟩
    have ev : cf_wk (w 19) (w 16) (w 18) N g b (fun t => cf_kn (w 20) (w 21) t m) = (6, -1, 0, -1, -1) := by
      unfold cf_wk
      simp only [v1, v2, v3, cf_q_0_1, cf_q_0_2, cf_q_0_3, cf_q_0_4, cf_q_0_5, cf_q_0_6, cf_q_0_7, cf_q_0_8, cf_q_0_9, cf_q_1_0, cf_q_1_2, cf_q_1_3, cf_q_1_4, cf_q_1_5, cf_q_1_6, cf_q_1_7, cf_q_1_8, cf_q_1_9, cf_q_2_0, cf_q_2_1, cf_q_2_3, cf_q_2_4, cf_q_2_5, cf_q_2_6, cf_q_2_7, cf_q_2_8, cf_q_2_9, cf_q_3_0, cf_q_3_1, cf_q_3_2, cf_q_3_4, cf_q_3_5, cf_q_3_6, cf_q_3_7, cf_q_3_8, cf_q_3_9, cf_q_4_0, cf_q_4_1, cf_q_4_2, cf_q_4_3, cf_q_4_5, cf_q_4_6, cf_q_4_7, cf_q_4_8, cf_q_4_9, cf_q_5_0, cf_q_5_1, cf_q_5_2, cf_q_5_3, cf_q_5_4, cf_q_5_6, cf_q_5_7, cf_q_5_8, cf_q_5_9, cf_q_6_0, cf_q_6_1, cf_q_6_2, cf_q_6_3, cf_q_6_4, cf_q_6_5, cf_q_6_7, cf_q_6_8, cf_q_6_9, cf_q_7_0, cf_q_7_1, cf_q_7_2, cf_q_7_3, cf_q_7_4, cf_q_7_5, cf_q_7_6, cf_q_7_8, cf_q_7_9, cf_q_8_0, cf_q_8_1, cf_q_8_2, cf_q_8_3, cf_q_8_4, cf_q_8_5, cf_q_8_6, cf_q_8_7, cf_q_8_9, cf_q_9_0, cf_q_9_1, cf_q_9_2, cf_q_9_3, cf_q_9_4, cf_q_9_5, cf_q_9_6, cf_q_9_7, cf_q_9_8, ↓reduceIte, not_true_eq_false, not_false_eq_true]
    rw [ev]
    exact ⟨a18, a19, q20, q21, q22, qfr⟩
  · obtain ⟨x2, w2, hH, hx2, f2, e2, r2⟩ := sp_P_halve (w := w) hN hm hA q0 q11 hg hb q6 q7 ⟨a18, a19, q21⟩
    have hcc := cf_hv_c (A := w 19) (V := fun t => cf_kn (w 20) (w 21) t m) hN 16 b (1 <<< (nI b &&& 31) ||| 1 <<< (nI g &&& 31)) (w 19 b &&& (w 19 g ^^^ -1)) hb
    have ev : cf_wk (w 19) (w 16) (w 18) N g b (fun t => cf_kn (w 20) (w 21) t m) = cf_tl (w 16) (w 18) (fun t => cf_kn (w 20) (w 21) t m) (fun s => cf_rd (fun t => cf_kn (w 20) (w 21) t m) 64 s 2) (cf_hv (w 19) N (fun t => cf_kn (w 20) (w 21) t m) 16 b (1 <<< (nI b &&& 31) ||| 1 <<< (nI g &&& 31)) (w 19 b &&& (w 19 g ^^^ -1))) := by
      have nb : ¬ cf_kn (w 20) (w 21) (nI b) m = 0 := by rw [v1]; decide
      have ng : ¬ cf_kn (w 20) (w 21) (nI g) m = 0 := by rw [v2]; decide
      unfold cf_wk
      exact (if_neg nb).trans ((if_neg (fun x => x v1)).trans ((if_neg ng).trans (if_neg (fun x => x v2))))
    rw [ev]
    have hRd : ∀ f c p al, c < 14 → p < 14 → f 11 = nI m → f 18 = 3 → f 19 = -1 → f 21 = nI c → w 16 c = nI p → al < 256 → cf_chg (w 18) c p 8 = nI al → ∃ w1, F_P_reduce [.inr 15] (cf_wa w 15 f) = some (none, w1) ∧ (∃ f', w1 = cf_wa w 15 f' ∧ cf_rfx f f' ((fun s => cf_rd (fun t => cf_kn (w 20) (w 21) t m) 64 s 2) al)) := fun f c p al a1 a2 a3 a4 a5 a6 a7 a8 a9 => sp_P_reduce hm a1 a2 a3 a4 a5 a6 a7 a8 a9
    generalize (fun s => cf_rd (fun t => cf_kn (w 20) (w 21) t m) 64 s 2) = R at hRd ⊢
    generalize cf_hv (w 19) N (fun t => cf_kn (w 20) (w 21) t m) 16 b (1 <<< (nI b &&& 31) ||| 1 <<< (nI g &&& 31)) (w 19 b &&& (w 19 g ^^^ -1)) = hv at hx2 r2 hcc ⊢
    obtain ⟨st, nx, S, cu⟩ := hv
    rw [e2] at hH
    simp only [r_P_work_0, r_P_work_1, r_P_work_2, r_P_work_5, r_P_work_6, r_P_work_7, r_P_work_10, r_P_work_11, r_P_work_12, r_P_work_15, r_P_work_16, r_P_work_17, r_P_work_20, r_P_work_21, r_P_work_22, r_P_work_25, r_P_work_26, r_P_work_29, r_P_work_32, c_P_work_33 (hE'), r_P_work_36, r_P_work_40, r_P_work_43, r_P_work_46, r_P_work_47, r_P_work_48, r_P_work_51, r_P_work_52, r_P_work_55, r_P_work_56, r_P_work_57, r_P_work_58, r_P_work_61, r_P_work_62, r_P_work_63, r_P_work_66, r_P_work_67, r_P_work_68, r_P_work_69, r_P_work_72, r_P_work_73, r_P_work_74, r_P_work_77, r_P_work_78, r_P_work_79, r_P_work_80, r_P_work_81, r_P_work_84, r_P_work_85, r_P_work_88, r_P_work_89, r_P_work_92, r_P_work_93, r_P_work_94, r_P_work_97, r_P_work_98, r_P_work_101, cf_wa_s, cf_wa_n, pk_us, pk_un, ne_eq, Nat.reduceEqDiff, not_false_eq_true, reduceCtorEq, cf_wa_wa, h5, cf_q_0_1, cf_q_0_2, cf_q_0_3, cf_q_0_4, cf_q_0_5, cf_q_0_6, cf_q_0_7, cf_q_0_8, cf_q_0_9, cf_q_1_0, cf_q_1_2, cf_q_1_3, cf_q_1_4, cf_q_1_5, cf_q_1_6, cf_q_1_7, cf_q_1_8, cf_q_1_9, cf_q_2_0, cf_q_2_1, cf_q_2_3, cf_q_2_4, cf_q_2_5, cf_q_2_6, cf_q_2_7, cf_q_2_8, cf_q_2_9, cf_q_3_0, cf_q_3_1, cf_q_3_2, cf_q_3_4, cf_q_3_5, cf_q_3_6, cf_q_3_7, cf_q_3_8, cf_q_3_9, cf_q_4_0, cf_q_4_1, cf_q_4_2, cf_q_4_3, cf_q_4_5, cf_q_4_6, cf_q_4_7, cf_q_4_8, cf_q_4_9, cf_q_5_0, cf_q_5_1, cf_q_5_2, cf_q_5_3, cf_q_5_4, cf_q_5_6, cf_q_5_7, cf_q_5_8, cf_q_5_9, cf_q_6_0, cf_q_6_1, cf_q_6_2, cf_q_6_3, cf_q_6_4, cf_q_6_5, cf_q_6_7, cf_q_6_8, cf_q_6_9, cf_q_7_0, cf_q_7_1, cf_q_7_2, cf_q_7_3, cf_q_7_4, cf_q_7_5, cf_q_7_6, cf_q_7_8, cf_q_7_9, cf_q_8_0, cf_q_8_1, cf_q_8_2, cf_q_8_3, cf_q_8_4, cf_q_8_5, cf_q_8_6, cf_q_8_7, cf_q_8_9, cf_q_9_0, cf_q_9_1, cf_q_9_2, cf_q_9_3, cf_q_9_4, cf_q_9_5, cf_q_9_6, cf_q_9_7, cf_q_9_8, ↓reduceIte]
    exact wk_tl hN hm hF q11 q22 qfr hH hx2 r2 hcc hRd
