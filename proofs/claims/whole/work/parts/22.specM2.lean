/-! Machine: a program's run. p: codes; q: partners; v: variables -/
def cf_nx (p q v : Nat → Int32) (k : Nat) : Int32 × (Nat → Int32) :=
  if cf_op (p k) = 1 then (nI (k + 1), upd v (cf_lf (p k)).toNatClampNeg (cf_rt (p k)))
  else if cf_op (p k) = 2 then (nI (k + 1), upd v (cf_lf (p k)).toNatClampNeg (v (cf_lf (p k)).toNatClampNeg + v (cf_rt (p k)).toNatClampNeg))
  else if cf_op (p k) = 3 then (nI (k + 1), if v (cf_lf (p k)).toNatClampNeg ≤ 0 then v else upd v (cf_lf (p k)).toNatClampNeg (v (cf_lf (p k)).toNatClampNeg - 1))
  else if cf_op (p k) = 4 ∨ cf_op (p k) = 5 then (if v (cf_lf (p k)).toNatClampNeg = 0 then q k + 1 else nI (k + 1), v)
  else if cf_op (p k) = 6 then (if cf_op (p (q k).toNatClampNeg) = 4 then q k else nI (k + 1), v)
  else if cf_op (p k) = 7 then (if v (cf_lf (p k)).toNatClampNeg = cf_rt (p k) then nI (k + 1) else -1, v)
  else if cf_op (p k) = 8 then (nI (k + 1), upd v (cf_lf (p k)).toNatClampNeg (v (cf_rt (p k)).toNatClampNeg))
  else (nI (k + 1), v)
section Nx
variable {p q v : Nat → Int32} {k : Nat}
theorem cf_nx_0 (h : cf_op (p k) = 0 ∨ cf_op (p k) = 9) : cf_nx p q v k = (nI (k + 1), v) := by
  unfold cf_nx
  rcases h with h | h <;> simp only [h, cf_q_0_1, cf_q_0_2, cf_q_0_3, cf_q_0_4, cf_q_0_5, cf_q_0_6, cf_q_0_7, cf_q_0_8, cf_q_0_9, cf_q_1_0, cf_q_1_2, cf_q_1_3, cf_q_1_4, cf_q_1_5, cf_q_1_6, cf_q_1_7, cf_q_1_8, cf_q_1_9, cf_q_2_0, cf_q_2_1, cf_q_2_3, cf_q_2_4, cf_q_2_5, cf_q_2_6, cf_q_2_7, cf_q_2_8, cf_q_2_9, cf_q_3_0, cf_q_3_1, cf_q_3_2, cf_q_3_4, cf_q_3_5, cf_q_3_6, cf_q_3_7, cf_q_3_8, cf_q_3_9, cf_q_4_0, cf_q_4_1, cf_q_4_2, cf_q_4_3, cf_q_4_5, cf_q_4_6, cf_q_4_7, cf_q_4_8, cf_q_4_9, cf_q_5_0, cf_q_5_1, cf_q_5_2, cf_q_5_3, cf_q_5_4, cf_q_5_6, cf_q_5_7, cf_q_5_8, cf_q_5_9, cf_q_6_0, cf_q_6_1, cf_q_6_2, cf_q_6_3, cf_q_6_4, cf_q_6_5, cf_q_6_7, cf_q_6_8, cf_q_6_9, cf_q_7_0, cf_q_7_1, cf_q_7_2, cf_q_7_3, cf_q_7_4, cf_q_7_5, cf_q_7_6, cf_q_7_8, cf_q_7_9, cf_q_8_0, cf_q_8_1, cf_q_8_2, cf_q_8_3, cf_q_8_4, cf_q_8_5, cf_q_8_6, cf_q_8_7, cf_q_8_9, cf_q_9_0, cf_q_9_1, cf_q_9_2, cf_q_9_3, cf_q_9_4, cf_q_9_5, cf_q_9_6, cf_q_9_7, cf_q_9_8, or_self, ↓reduceIte]
theorem cf_nx_1 (h : cf_op (p k) = 1) : cf_nx p q v k = (nI (k + 1), upd v (cf_lf (p k)).toNatClampNeg (cf_rt (p k))) := by
  unfold cf_nx
  simp only [h, ↓reduceIte]
theorem cf_nx_2 (h : cf_op (p k) = 2) : cf_nx p q v k = (nI (k + 1), upd v (cf_lf (p k)).toNatClampNeg (v (cf_lf (p k)).toNatClampNeg + v (cf_rt (p k)).toNatClampNeg)) := by
  unfold cf_nx
  simp only [h, cf_q_0_1, cf_q_0_2, cf_q_0_3, cf_q_0_4, cf_q_0_5, cf_q_0_6, cf_q_0_7, cf_q_0_8, cf_q_0_9, cf_q_1_0, cf_q_1_2, cf_q_1_3, cf_q_1_4, cf_q_1_5, cf_q_1_6, cf_q_1_7, cf_q_1_8, cf_q_1_9, cf_q_2_0, cf_q_2_1, cf_q_2_3, cf_q_2_4, cf_q_2_5, cf_q_2_6, cf_q_2_7, cf_q_2_8, cf_q_2_9, cf_q_3_0, cf_q_3_1, cf_q_3_2, cf_q_3_4, cf_q_3_5, cf_q_3_6, cf_q_3_7, cf_q_3_8, cf_q_3_9, cf_q_4_0, cf_q_4_1, cf_q_4_2, cf_q_4_3, cf_q_4_5, cf_q_4_6, cf_q_4_7, cf_q_4_8, cf_q_4_9, cf_q_5_0, cf_q_5_1, cf_q_5_2, cf_q_5_3, cf_q_5_4, cf_q_5_6, cf_q_5_7, cf_q_5_8, cf_q_5_9, cf_q_6_0, cf_q_6_1, cf_q_6_2, cf_q_6_3, cf_q_6_4, cf_q_6_5, cf_q_6_7, cf_q_6_8, cf_q_6_9, cf_q_7_0, cf_q_7_1, cf_q_7_2, cf_q_7_3, cf_q_7_4, cf_q_7_5, cf_q_7_6, cf_q_7_8, cf_q_7_9, cf_q_8_0, cf_q_8_1, cf_q_8_2, cf_q_8_3, cf_q_8_4, cf_q_8_5, cf_q_8_6, cf_q_8_7, cf_q_8_9, cf_q_9_0, cf_q_9_1, cf_q_9_2, cf_q_9_3, cf_q_9_4, cf_q_9_5, cf_q_9_6, cf_q_9_7, cf_q_9_8, ↓reduceIte]
theorem cf_nx_3 (h : cf_op (p k) = 3) : cf_nx p q v k = (nI (k + 1), if v (cf_lf (p k)).toNatClampNeg ≤ 0 then v else upd v (cf_lf (p k)).toNatClampNeg (v (cf_lf (p k)).toNatClampNeg - 1)) := by
  unfold cf_nx
  simp only [h, cf_q_0_1, cf_q_0_2, cf_q_0_3, cf_q_0_4, cf_q_0_5, cf_q_0_6, cf_q_0_7, cf_q_0_8, cf_q_0_9, cf_q_1_0, cf_q_1_2, cf_q_1_3, cf_q_1_4, cf_q_1_5, cf_q_1_6, cf_q_1_7, cf_q_1_8, cf_q_1_9, cf_q_2_0, cf_q_2_1, cf_q_2_3, cf_q_2_4, cf_q_2_5, cf_q_2_6, cf_q_2_7, cf_q_2_8, cf_q_2_9, cf_q_3_0, cf_q_3_1, cf_q_3_2, cf_q_3_4, cf_q_3_5, cf_q_3_6, cf_q_3_7, cf_q_3_8, cf_q_3_9, cf_q_4_0, cf_q_4_1, cf_q_4_2, cf_q_4_3, cf_q_4_5, cf_q_4_6, cf_q_4_7, cf_q_4_8, cf_q_4_9, cf_q_5_0, cf_q_5_1, cf_q_5_2, cf_q_5_3, cf_q_5_4, cf_q_5_6, cf_q_5_7, cf_q_5_8, cf_q_5_9, cf_q_6_0, cf_q_6_1, cf_q_6_2, cf_q_6_3, cf_q_6_4, cf_q_6_5, cf_q_6_7, cf_q_6_8, cf_q_6_9, cf_q_7_0, cf_q_7_1, cf_q_7_2, cf_q_7_3, cf_q_7_4, cf_q_7_5, cf_q_7_6, cf_q_7_8, cf_q_7_9, cf_q_8_0, cf_q_8_1, cf_q_8_2, cf_q_8_3, cf_q_8_4, cf_q_8_5, cf_q_8_6, cf_q_8_7, cf_q_8_9, cf_q_9_0, cf_q_9_1, cf_q_9_2, cf_q_9_3, cf_q_9_4, cf_q_9_5, cf_q_9_6, cf_q_9_7, cf_q_9_8, ↓reduceIte]
theorem cf_nx_45 (h : cf_op (p k) = 4 ∨ cf_op (p k) = 5) : cf_nx p q v k = (if v (cf_lf (p k)).toNatClampNeg = 0 then q k + 1 else nI (k + 1), v) := by
  unfold cf_nx
  rcases h with h | h <;> simp only [h, cf_q_0_1, cf_q_0_2, cf_q_0_3, cf_q_0_4, cf_q_0_5, cf_q_0_6, cf_q_0_7, cf_q_0_8, cf_q_0_9, cf_q_1_0, cf_q_1_2, cf_q_1_3, cf_q_1_4, cf_q_1_5, cf_q_1_6, cf_q_1_7, cf_q_1_8, cf_q_1_9, cf_q_2_0, cf_q_2_1, cf_q_2_3, cf_q_2_4, cf_q_2_5, cf_q_2_6, cf_q_2_7, cf_q_2_8, cf_q_2_9, cf_q_3_0, cf_q_3_1, cf_q_3_2, cf_q_3_4, cf_q_3_5, cf_q_3_6, cf_q_3_7, cf_q_3_8, cf_q_3_9, cf_q_4_0, cf_q_4_1, cf_q_4_2, cf_q_4_3, cf_q_4_5, cf_q_4_6, cf_q_4_7, cf_q_4_8, cf_q_4_9, cf_q_5_0, cf_q_5_1, cf_q_5_2, cf_q_5_3, cf_q_5_4, cf_q_5_6, cf_q_5_7, cf_q_5_8, cf_q_5_9, cf_q_6_0, cf_q_6_1, cf_q_6_2, cf_q_6_3, cf_q_6_4, cf_q_6_5, cf_q_6_7, cf_q_6_8, cf_q_6_9, cf_q_7_0, cf_q_7_1, cf_q_7_2, cf_q_7_3, cf_q_7_4, cf_q_7_5, cf_q_7_6, cf_q_7_8, cf_q_7_9, cf_q_8_0, cf_q_8_1, cf_q_8_2, cf_q_8_3, cf_q_8_4, cf_q_8_5, cf_q_8_6, cf_q_8_7, cf_q_8_9, cf_q_9_0, cf_q_9_1, cf_q_9_2, cf_q_9_3, cf_q_9_4, cf_q_9_5, cf_q_9_6, cf_q_9_7, cf_q_9_8, ↓reduceIte, or_false, false_or, true_or, or_true]
theorem cf_nx_6 (h : cf_op (p k) = 6) : cf_nx p q v k = (if cf_op (p (q k).toNatClampNeg) = 4 then q k else nI (k + 1), v) := by
  unfold cf_nx
  simp only [h, cf_q_0_1, cf_q_0_2, cf_q_0_3, cf_q_0_4, cf_q_0_5, cf_q_0_6, cf_q_0_7, cf_q_0_8, cf_q_0_9, cf_q_1_0, cf_q_1_2, cf_q_1_3, cf_q_1_4, cf_q_1_5, cf_q_1_6, cf_q_1_7, cf_q_1_8, cf_q_1_9, cf_q_2_0, cf_q_2_1, cf_q_2_3, cf_q_2_4, cf_q_2_5, cf_q_2_6, cf_q_2_7, cf_q_2_8, cf_q_2_9, cf_q_3_0, cf_q_3_1, cf_q_3_2, cf_q_3_4, cf_q_3_5, cf_q_3_6, cf_q_3_7, cf_q_3_8, cf_q_3_9, cf_q_4_0, cf_q_4_1, cf_q_4_2, cf_q_4_3, cf_q_4_5, cf_q_4_6, cf_q_4_7, cf_q_4_8, cf_q_4_9, cf_q_5_0, cf_q_5_1, cf_q_5_2, cf_q_5_3, cf_q_5_4, cf_q_5_6, cf_q_5_7, cf_q_5_8, cf_q_5_9, cf_q_6_0, cf_q_6_1, cf_q_6_2, cf_q_6_3, cf_q_6_4, cf_q_6_5, cf_q_6_7, cf_q_6_8, cf_q_6_9, cf_q_7_0, cf_q_7_1, cf_q_7_2, cf_q_7_3, cf_q_7_4, cf_q_7_5, cf_q_7_6, cf_q_7_8, cf_q_7_9, cf_q_8_0, cf_q_8_1, cf_q_8_2, cf_q_8_3, cf_q_8_4, cf_q_8_5, cf_q_8_6, cf_q_8_7, cf_q_8_9, cf_q_9_0, cf_q_9_1, cf_q_9_2, cf_q_9_3, cf_q_9_4, cf_q_9_5, cf_q_9_6, cf_q_9_7, cf_q_9_8, or_self, ↓reduceIte]
theorem cf_nx_7 (h : cf_op (p k) = 7) : cf_nx p q v k = (if v (cf_lf (p k)).toNatClampNeg = cf_rt (p k) then nI (k + 1) else -1, v) := by
  unfold cf_nx
  simp only [h, cf_q_0_1, cf_q_0_2, cf_q_0_3, cf_q_0_4, cf_q_0_5, cf_q_0_6, cf_q_0_7, cf_q_0_8, cf_q_0_9, cf_q_1_0, cf_q_1_2, cf_q_1_3, cf_q_1_4, cf_q_1_5, cf_q_1_6, cf_q_1_7, cf_q_1_8, cf_q_1_9, cf_q_2_0, cf_q_2_1, cf_q_2_3, cf_q_2_4, cf_q_2_5, cf_q_2_6, cf_q_2_7, cf_q_2_8, cf_q_2_9, cf_q_3_0, cf_q_3_1, cf_q_3_2, cf_q_3_4, cf_q_3_5, cf_q_3_6, cf_q_3_7, cf_q_3_8, cf_q_3_9, cf_q_4_0, cf_q_4_1, cf_q_4_2, cf_q_4_3, cf_q_4_5, cf_q_4_6, cf_q_4_7, cf_q_4_8, cf_q_4_9, cf_q_5_0, cf_q_5_1, cf_q_5_2, cf_q_5_3, cf_q_5_4, cf_q_5_6, cf_q_5_7, cf_q_5_8, cf_q_5_9, cf_q_6_0, cf_q_6_1, cf_q_6_2, cf_q_6_3, cf_q_6_4, cf_q_6_5, cf_q_6_7, cf_q_6_8, cf_q_6_9, cf_q_7_0, cf_q_7_1, cf_q_7_2, cf_q_7_3, cf_q_7_4, cf_q_7_5, cf_q_7_6, cf_q_7_8, cf_q_7_9, cf_q_8_0, cf_q_8_1, cf_q_8_2, cf_q_8_3, cf_q_8_4, cf_q_8_5, cf_q_8_6, cf_q_8_7, cf_q_8_9, cf_q_9_0, cf_q_9_1, cf_q_9_2, cf_q_9_3, cf_q_9_4, cf_q_9_5, cf_q_9_6, cf_q_9_7, cf_q_9_8, or_self, ↓reduceIte]
theorem cf_nx_8 (h : cf_op (p k) = 8) : cf_nx p q v k = (nI (k + 1), upd v (cf_lf (p k)).toNatClampNeg (v (cf_rt (p k)).toNatClampNeg)) := by
  unfold cf_nx
  simp only [h, cf_q_0_1, cf_q_0_2, cf_q_0_3, cf_q_0_4, cf_q_0_5, cf_q_0_6, cf_q_0_7, cf_q_0_8, cf_q_0_9, cf_q_1_0, cf_q_1_2, cf_q_1_3, cf_q_1_4, cf_q_1_5, cf_q_1_6, cf_q_1_7, cf_q_1_8, cf_q_1_9, cf_q_2_0, cf_q_2_1, cf_q_2_3, cf_q_2_4, cf_q_2_5, cf_q_2_6, cf_q_2_7, cf_q_2_8, cf_q_2_9, cf_q_3_0, cf_q_3_1, cf_q_3_2, cf_q_3_4, cf_q_3_5, cf_q_3_6, cf_q_3_7, cf_q_3_8, cf_q_3_9, cf_q_4_0, cf_q_4_1, cf_q_4_2, cf_q_4_3, cf_q_4_5, cf_q_4_6, cf_q_4_7, cf_q_4_8, cf_q_4_9, cf_q_5_0, cf_q_5_1, cf_q_5_2, cf_q_5_3, cf_q_5_4, cf_q_5_6, cf_q_5_7, cf_q_5_8, cf_q_5_9, cf_q_6_0, cf_q_6_1, cf_q_6_2, cf_q_6_3, cf_q_6_4, cf_q_6_5, cf_q_6_7, cf_q_6_8, cf_q_6_9, cf_q_7_0, cf_q_7_1, cf_q_7_2, cf_q_7_3, cf_q_7_4, cf_q_7_5, cf_q_7_6, cf_q_7_8, cf_q_7_9, cf_q_8_0, cf_q_8_1, cf_q_8_2, cf_q_8_3, cf_q_8_4, cf_q_8_5, cf_q_8_6, cf_q_8_7, cf_q_8_9, cf_q_9_0, cf_q_9_1, cf_q_9_2, cf_q_9_3, cf_q_9_4, cf_q_9_5, cf_q_9_6, cf_q_9_7, cf_q_9_8, or_self, ↓reduceIte]
end Nx
theorem sp_M_lineAfter {k : Nat} (hk : k < 8) {w : cf_Wd} {v : Nat → Int32} (hc : cf_cd (w 6 k)) (hp : ∀ j, j < 8 → cf_cd (w 6 j)) (hq : cf_pk (w 6 k) → ∃ i, i < 8 ∧ w 7 k = nI i) : F_M_lineAfter [.inr 5, .inl (nI k)] (cf_wa w 9 v) = some (some (.inl (cf_nx (w 6) (w 7) v k).1), cf_wa w 9 (cf_nx (w 6) (w 7) v k).2) := by
  refine cf_is (e_M_lineAfter ?_)
  obtain ⟨o, l, r, ho, hl, hr, eo, el, er⟩ := cf_cd_p hc
  have il := cf_in_nI hl (show 10 < 2 ^ 31 by decide)
  have ir := cf_in_nI hr (show 10 < 2 ^ 31 by decide)
  have ik := cf_in_nI hk (show 8 < 2 ^ 31 by decide)
  have nl := nI_clamp (show l < 2 ^ 31 by omega)
  have nr := nI_clamp (show r < 2 ^ 31 by omega)
  have nk := nI_clamp (show k < 2 ^ 31 by omega)
  rcases cf_op10 hc with e | e | e | e | e | e | e | e | e | e
  · rw [cf_nx_0 (Or.inl e)]
    simp only [r_M_lineAfter_0, r_M_lineAfter_1, r_M_lineAfter_4, r_M_lineAfter_5, c_M_lineAfter_6 sp_M_left, r_M_lineAfter_9, r_M_lineAfter_10, r_M_lineAfter_11, r_M_lineAfter_14, r_M_lineAfter_15, c_M_lineAfter_16 sp_M_right, r_M_lineAfter_19, r_M_lineAfter_20, r_M_lineAfter_21, r_M_lineAfter_24, r_M_lineAfter_25, c_M_lineAfter_26 sp_M_operation, r_M_lineAfter_29_0, r_M_lineAfter_29_1, r_M_lineAfter_29_2, r_M_lineAfter_29_3, r_M_lineAfter_29_4, r_M_lineAfter_29_5, r_M_lineAfter_29_6, r_M_lineAfter_29_7, r_M_lineAfter_29_8, r_M_lineAfter_29_9, r_M_lineAfter_76, r_M_lineAfter_77, r_M_lineAfter_80, r_M_lineAfter_81, r_M_lineAfter_82, r_M_lineAfter_83, r_M_lineAfter_86, r_M_lineAfter_87, r_M_lineAfter_90, r_M_lineAfter_91, r_M_lineAfter_92, r_M_lineAfter_93, r_M_lineAfter_94, r_M_lineAfter_97, r_M_lineAfter_98, r_M_lineAfter_99, r_M_lineAfter_100, r_M_lineAfter_101, r_M_lineAfter_104, r_M_lineAfter_105, r_M_lineAfter_108, r_M_lineAfter_109, r_M_lineAfter_110, r_M_lineAfter_113, r_M_lineAfter_114, r_M_lineAfter_117, r_M_lineAfter_118, r_M_lineAfter_119, r_M_lineAfter_120, r_M_lineAfter_121, r_M_lineAfter_122, r_M_lineAfter_123, r_M_lineAfter_126, r_M_lineAfter_127, r_M_lineAfter_130, r_M_lineAfter_131, r_M_lineAfter_132, r_M_lineAfter_135, r_M_lineAfter_136, r_M_lineAfter_139, r_M_lineAfter_140, r_M_lineAfter_141, r_M_lineAfter_142, r_M_lineAfter_143, r_M_lineAfter_144, r_M_lineAfter_145, r_M_lineAfter_148, r_M_lineAfter_149, r_M_lineAfter_152, r_M_lineAfter_153, r_M_lineAfter_154, c_M_lineAfter_155 sp_M_operation, r_M_lineAfter_158, r_M_lineAfter_159, r_M_lineAfter_162, r_M_lineAfter_163, r_M_lineAfter_166, r_M_lineAfter_167, r_M_lineAfter_168, r_M_lineAfter_169, r_M_lineAfter_170, r_M_lineAfter_173, r_M_lineAfter_174, r_M_lineAfter_175, r_M_lineAfter_176, r_M_lineAfter_179, r_M_lineAfter_180, r_M_lineAfter_181, r_M_lineAfter_182, r_M_lineAfter_185, r_M_lineAfter_186, r_M_lineAfter_187, r_M_lineAfter_190, r_M_lineAfter_191, r_M_lineAfter_192, r_M_lineAfter_193, r_M_lineAfter_196, r_M_lineAfter_197, r_M_lineAfter_198, r_M_lineAfter_199, e, el, er, il, ir, ik, nl, nr, nk, true_and, cf_wa_s, cf_wa_n, pk_us, pk_un, ne_eq, Nat.reduceEqDiff, not_false_eq_true, reduceCtorEq, nI_1, cf_wa_wa, and_self]
  · rw [cf_nx_1 e]
    simp only [r_M_lineAfter_0, r_M_lineAfter_1, r_M_lineAfter_4, r_M_lineAfter_5, c_M_lineAfter_6 sp_M_left, r_M_lineAfter_9, r_M_lineAfter_10, r_M_lineAfter_11, r_M_lineAfter_14, r_M_lineAfter_15, c_M_lineAfter_16 sp_M_right, r_M_lineAfter_19, r_M_lineAfter_20, r_M_lineAfter_21, r_M_lineAfter_24, r_M_lineAfter_25, c_M_lineAfter_26 sp_M_operation, r_M_lineAfter_29_0, r_M_lineAfter_29_1, r_M_lineAfter_29_2, r_M_lineAfter_29_3, r_M_lineAfter_29_4, r_M_lineAfter_29_5, r_M_lineAfter_29_6, r_M_lineAfter_29_7, r_M_lineAfter_29_8, r_M_lineAfter_29_9, r_M_lineAfter_76, r_M_lineAfter_77, r_M_lineAfter_80, r_M_lineAfter_81, r_M_lineAfter_82, r_M_lineAfter_83, r_M_lineAfter_86, r_M_lineAfter_87, r_M_lineAfter_90, r_M_lineAfter_91, r_M_lineAfter_92, r_M_lineAfter_93, r_M_lineAfter_94, r_M_lineAfter_97, r_M_lineAfter_98, r_M_lineAfter_99, r_M_lineAfter_100, r_M_lineAfter_101, r_M_lineAfter_104, r_M_lineAfter_105, r_M_lineAfter_108, r_M_lineAfter_109, r_M_lineAfter_110, r_M_lineAfter_113, r_M_lineAfter_114, r_M_lineAfter_117, r_M_lineAfter_118, r_M_lineAfter_119, r_M_lineAfter_120, r_M_lineAfter_121, r_M_lineAfter_122, r_M_lineAfter_123, r_M_lineAfter_126, r_M_lineAfter_127, r_M_lineAfter_130, r_M_lineAfter_131, r_M_lineAfter_132, r_M_lineAfter_135, r_M_lineAfter_136, r_M_lineAfter_139, r_M_lineAfter_140, r_M_lineAfter_141, r_M_lineAfter_142, r_M_lineAfter_143, r_M_lineAfter_144, r_M_lineAfter_145, r_M_lineAfter_148, r_M_lineAfter_149, r_M_lineAfter_152, r_M_lineAfter_153, r_M_lineAfter_154, c_M_lineAfter_155 sp_M_operation, r_M_lineAfter_158, r_M_lineAfter_159, r_M_lineAfter_162, r_M_lineAfter_163, r_M_lineAfter_166, r_M_lineAfter_167, r_M_lineAfter_168, r_M_lineAfter_169, r_M_lineAfter_170, r_M_lineAfter_173, r_M_lineAfter_174, r_M_lineAfter_175, r_M_lineAfter_176, r_M_lineAfter_179, r_M_lineAfter_180, r_M_lineAfter_181, r_M_lineAfter_182, r_M_lineAfter_185, r_M_lineAfter_186, r_M_lineAfter_187, r_M_lineAfter_190, r_M_lineAfter_191, r_M_lineAfter_192, r_M_lineAfter_193, r_M_lineAfter_196, r_M_lineAfter_197, r_M_lineAfter_198, r_M_lineAfter_199, e, el, er, il, ir, ik, nl, nr, nk, true_and, cf_wa_s, cf_wa_n, pk_us, pk_un, ne_eq, Nat.reduceEqDiff, not_false_eq_true, reduceCtorEq, nI_1, cf_wa_wa, and_self]
  · rw [cf_nx_2 e]
    simp only [r_M_lineAfter_0, r_M_lineAfter_1, r_M_lineAfter_4, r_M_lineAfter_5, c_M_lineAfter_6 sp_M_left, r_M_lineAfter_9, r_M_lineAfter_10, r_M_lineAfter_11, r_M_lineAfter_14, r_M_lineAfter_15, c_M_lineAfter_16 sp_M_right, r_M_lineAfter_19, r_M_lineAfter_20, r_M_lineAfter_21, r_M_lineAfter_24, r_M_lineAfter_25, c_M_lineAfter_26 sp_M_operation, r_M_lineAfter_29_0, r_M_lineAfter_29_1, r_M_lineAfter_29_2, r_M_lineAfter_29_3, r_M_lineAfter_29_4, r_M_lineAfter_29_5, r_M_lineAfter_29_6, r_M_lineAfter_29_7, r_M_lineAfter_29_8, r_M_lineAfter_29_9, r_M_lineAfter_76, r_M_lineAfter_77, r_M_lineAfter_80, r_M_lineAfter_81, r_M_lineAfter_82, r_M_lineAfter_83, r_M_lineAfter_86, r_M_lineAfter_87, r_M_lineAfter_90, r_M_lineAfter_91, r_M_lineAfter_92, r_M_lineAfter_93, r_M_lineAfter_94, r_M_lineAfter_97, r_M_lineAfter_98, r_M_lineAfter_99, r_M_lineAfter_100, r_M_lineAfter_101, r_M_lineAfter_104, r_M_lineAfter_105, r_M_lineAfter_108, r_M_lineAfter_109, r_M_lineAfter_110, r_M_lineAfter_113, r_M_lineAfter_114, r_M_lineAfter_117, r_M_lineAfter_118, r_M_lineAfter_119, r_M_lineAfter_120, r_M_lineAfter_121, r_M_lineAfter_122, r_M_lineAfter_123, r_M_lineAfter_126, r_M_lineAfter_127, r_M_lineAfter_130, r_M_lineAfter_131, r_M_lineAfter_132, r_M_lineAfter_135, r_M_lineAfter_136, r_M_lineAfter_139, r_M_lineAfter_140, r_M_lineAfter_141, r_M_lineAfter_142, r_M_lineAfter_143, r_M_lineAfter_144, r_M_lineAfter_145, r_M_lineAfter_148, r_M_lineAfter_149, r_M_lineAfter_152, r_M_lineAfter_153, r_M_lineAfter_154, c_M_lineAfter_155 sp_M_operation, r_M_lineAfter_158, r_M_lineAfter_159, r_M_lineAfter_162, r_M_lineAfter_163, r_M_lineAfter_166, r_M_lineAfter_167, r_M_lineAfter_168, r_M_lineAfter_169, r_M_lineAfter_170, r_M_lineAfter_173, r_M_lineAfter_174, r_M_lineAfter_175, r_M_lineAfter_176, r_M_lineAfter_179, r_M_lineAfter_180, r_M_lineAfter_181, r_M_lineAfter_182, r_M_lineAfter_185, r_M_lineAfter_186, r_M_lineAfter_187, r_M_lineAfter_190, r_M_lineAfter_191, r_M_lineAfter_192, r_M_lineAfter_193, r_M_lineAfter_196, r_M_lineAfter_197, r_M_lineAfter_198, r_M_lineAfter_199, e, el, er, il, ir, ik, nl, nr, nk, true_and, cf_wa_s, cf_wa_n, pk_us, pk_un, ne_eq, Nat.reduceEqDiff, not_false_eq_true, reduceCtorEq, nI_1, cf_wa_wa, and_self]
  · rw [cf_nx_3 e]
    simp only [r_M_lineAfter_0, r_M_lineAfter_1, r_M_lineAfter_4, r_M_lineAfter_5, c_M_lineAfter_6 sp_M_left, r_M_lineAfter_9, r_M_lineAfter_10, r_M_lineAfter_11, r_M_lineAfter_14, r_M_lineAfter_15, c_M_lineAfter_16 sp_M_right, r_M_lineAfter_19, r_M_lineAfter_20, r_M_lineAfter_21, r_M_lineAfter_24, r_M_lineAfter_25, c_M_lineAfter_26 sp_M_operation, r_M_lineAfter_29_0, r_M_lineAfter_29_1, r_M_lineAfter_29_2, r_M_lineAfter_29_3, r_M_lineAfter_29_4, r_M_lineAfter_29_5, r_M_lineAfter_29_6, r_M_lineAfter_29_7, r_M_lineAfter_29_8, r_M_lineAfter_29_9, r_M_lineAfter_76, r_M_lineAfter_77, r_M_lineAfter_80, r_M_lineAfter_81, r_M_lineAfter_82, r_M_lineAfter_83, r_M_lineAfter_86, r_M_lineAfter_87, r_M_lineAfter_90, r_M_lineAfter_91, r_M_lineAfter_92, r_M_lineAfter_93, r_M_lineAfter_94, r_M_lineAfter_97, r_M_lineAfter_98, r_M_lineAfter_99, r_M_lineAfter_100, r_M_lineAfter_101, r_M_lineAfter_104, r_M_lineAfter_105, r_M_lineAfter_108, r_M_lineAfter_109, r_M_lineAfter_110, r_M_lineAfter_113, r_M_lineAfter_114, r_M_lineAfter_117, r_M_lineAfter_118, r_M_lineAfter_119, r_M_lineAfter_120, r_M_lineAfter_121, r_M_lineAfter_122, r_M_lineAfter_123, r_M_lineAfter_126, r_M_lineAfter_127, r_M_lineAfter_130, r_M_lineAfter_131, r_M_lineAfter_132, r_M_lineAfter_135, r_M_lineAfter_136, r_M_lineAfter_139, r_M_lineAfter_140, r_M_lineAfter_141, r_M_lineAfter_142, r_M_lineAfter_143, r_M_lineAfter_144, r_M_lineAfter_145, r_M_lineAfter_148, r_M_lineAfter_149, r_M_lineAfter_152, r_M_lineAfter_153, r_M_lineAfter_154, c_M_lineAfter_155 sp_M_operation, r_M_lineAfter_158, r_M_lineAfter_159, r_M_lineAfter_162, r_M_lineAfter_163, r_M_lineAfter_166, r_M_lineAfter_167, r_M_lineAfter_168, r_M_lineAfter_169, r_M_lineAfter_170, r_M_lineAfter_173, r_M_lineAfter_174, r_M_lineAfter_175, r_M_lineAfter_176, r_M_lineAfter_179, r_M_lineAfter_180, r_M_lineAfter_181, r_M_lineAfter_182, r_M_lineAfter_185, r_M_lineAfter_186, r_M_lineAfter_187, r_M_lineAfter_190, r_M_lineAfter_191, r_M_lineAfter_192, r_M_lineAfter_193, r_M_lineAfter_196, r_M_lineAfter_197, r_M_lineAfter_198, r_M_lineAfter_199, e, el, er, il, ir, ik, nl, nr, nk, true_and, cf_wa_s, cf_wa_n, pk_us, pk_un, ne_eq, Nat.reduceEqDiff, not_false_eq_true, reduceCtorEq, nI_1, cf_wa_wa, and_self]
    by_cases h : v l ≤ 0
    · simp only [h, ↓reduceIte]
    · simp only [h, ↓reduceIte]
  · obtain ⟨i, hi, ei⟩ := hq (Or.inl e)
    rw [cf_nx_45 (Or.inl e)]
    simp only [r_M_lineAfter_0, r_M_lineAfter_1, r_M_lineAfter_4, r_M_lineAfter_5, c_M_lineAfter_6 sp_M_left, r_M_lineAfter_9, r_M_lineAfter_10, r_M_lineAfter_11, r_M_lineAfter_14, r_M_lineAfter_15, c_M_lineAfter_16 sp_M_right, r_M_lineAfter_19, r_M_lineAfter_20, r_M_lineAfter_21, r_M_lineAfter_24, r_M_lineAfter_25, c_M_lineAfter_26 sp_M_operation, r_M_lineAfter_29_0, r_M_lineAfter_29_1, r_M_lineAfter_29_2, r_M_lineAfter_29_3, r_M_lineAfter_29_4, r_M_lineAfter_29_5, r_M_lineAfter_29_6, r_M_lineAfter_29_7, r_M_lineAfter_29_8, r_M_lineAfter_29_9, r_M_lineAfter_76, r_M_lineAfter_77, r_M_lineAfter_80, r_M_lineAfter_81, r_M_lineAfter_82, r_M_lineAfter_83, r_M_lineAfter_86, r_M_lineAfter_87, r_M_lineAfter_90, r_M_lineAfter_91, r_M_lineAfter_92, r_M_lineAfter_93, r_M_lineAfter_94, r_M_lineAfter_97, r_M_lineAfter_98, r_M_lineAfter_99, r_M_lineAfter_100, r_M_lineAfter_101, r_M_lineAfter_104, r_M_lineAfter_105, r_M_lineAfter_108, r_M_lineAfter_109, r_M_lineAfter_110, r_M_lineAfter_113, r_M_lineAfter_114, r_M_lineAfter_117, r_M_lineAfter_118, r_M_lineAfter_119, r_M_lineAfter_120, r_M_lineAfter_121, r_M_lineAfter_122, r_M_lineAfter_123, r_M_lineAfter_126, r_M_lineAfter_127, r_M_lineAfter_130, r_M_lineAfter_131, r_M_lineAfter_132, r_M_lineAfter_135, r_M_lineAfter_136, r_M_lineAfter_139, r_M_lineAfter_140, r_M_lineAfter_141, r_M_lineAfter_142, r_M_lineAfter_143, r_M_lineAfter_144, r_M_lineAfter_145, r_M_lineAfter_148, r_M_lineAfter_149, r_M_lineAfter_152, r_M_lineAfter_153, r_M_lineAfter_154, c_M_lineAfter_155 sp_M_operation, r_M_lineAfter_158, r_M_lineAfter_159, r_M_lineAfter_162, r_M_lineAfter_163, r_M_lineAfter_166, r_M_lineAfter_167, r_M_lineAfter_168, r_M_lineAfter_169, r_M_lineAfter_170, r_M_lineAfter_173, r_M_lineAfter_174, r_M_lineAfter_175, r_M_lineAfter_176, r_M_lineAfter_179, r_M_lineAfter_180, r_M_lineAfter_181, r_M_lineAfter_182, r_M_lineAfter_185, r_M_lineAfter_186, r_M_lineAfter_187, r_M_lineAfter_190, r_M_lineAfter_191, r_M_lineAfter_192, r_M_lineAfter_193, r_M_lineAfter_196, r_M_lineAfter_197, r_M_lineAfter_198, r_M_lineAfter_199, e, el, er, il, ir, ik, nl, nr, nk, true_and, cf_wa_s, cf_wa_n, pk_us, pk_un, ne_eq, Nat.reduceEqDiff, not_false_eq_true, reduceCtorEq, nI_1, cf_wa_wa, and_self]
    by_cases h : v l = 0
    · simp only [h, not_true_eq_false, ↓reduceIte, and_self]
    · simp only [h, not_false_eq_true, ↓reduceIte, and_self]
  · obtain ⟨i, hi, ei⟩ := hq (Or.inr (Or.inl e))
    rw [cf_nx_45 (Or.inr e)]
    simp only [r_M_lineAfter_0, r_M_lineAfter_1, r_M_lineAfter_4, r_M_lineAfter_5, c_M_lineAfter_6 sp_M_left, r_M_lineAfter_9, r_M_lineAfter_10, r_M_lineAfter_11, r_M_lineAfter_14, r_M_lineAfter_15, c_M_lineAfter_16 sp_M_right, r_M_lineAfter_19, r_M_lineAfter_20, r_M_lineAfter_21, r_M_lineAfter_24, r_M_lineAfter_25, c_M_lineAfter_26 sp_M_operation, r_M_lineAfter_29_0, r_M_lineAfter_29_1, r_M_lineAfter_29_2, r_M_lineAfter_29_3, r_M_lineAfter_29_4, r_M_lineAfter_29_5, r_M_lineAfter_29_6, r_M_lineAfter_29_7, r_M_lineAfter_29_8, r_M_lineAfter_29_9, r_M_lineAfter_76, r_M_lineAfter_77, r_M_lineAfter_80, r_M_lineAfter_81, r_M_lineAfter_82, r_M_lineAfter_83, r_M_lineAfter_86, r_M_lineAfter_87, r_M_lineAfter_90, r_M_lineAfter_91, r_M_lineAfter_92, r_M_lineAfter_93, r_M_lineAfter_94, r_M_lineAfter_97, r_M_lineAfter_98, r_M_lineAfter_99, r_M_lineAfter_100, r_M_lineAfter_101, r_M_lineAfter_104, r_M_lineAfter_105, r_M_lineAfter_108, r_M_lineAfter_109, r_M_lineAfter_110, r_M_lineAfter_113, r_M_lineAfter_114, r_M_lineAfter_117, r_M_lineAfter_118, r_M_lineAfter_119, r_M_lineAfter_120, r_M_lineAfter_121, r_M_lineAfter_122, r_M_lineAfter_123, r_M_lineAfter_126, r_M_lineAfter_127, r_M_lineAfter_130, r_M_lineAfter_131, r_M_lineAfter_132, r_M_lineAfter_135, r_M_lineAfter_136, r_M_lineAfter_139, r_M_lineAfter_140, r_M_lineAfter_141, r_M_lineAfter_142, r_M_lineAfter_143, r_M_lineAfter_144, r_M_lineAfter_145, r_M_lineAfter_148, r_M_lineAfter_149, r_M_lineAfter_152, r_M_lineAfter_153, r_M_lineAfter_154, c_M_lineAfter_155 sp_M_operation, r_M_lineAfter_158, r_M_lineAfter_159, r_M_lineAfter_162, r_M_lineAfter_163, r_M_lineAfter_166, r_M_lineAfter_167, r_M_lineAfter_168, r_M_lineAfter_169, r_M_lineAfter_170, r_M_lineAfter_173, r_M_lineAfter_174, r_M_lineAfter_175, r_M_lineAfter_176, r_M_lineAfter_179, r_M_lineAfter_180, r_M_lineAfter_181, r_M_lineAfter_182, r_M_lineAfter_185, r_M_lineAfter_186, r_M_lineAfter_187, r_M_lineAfter_190, r_M_lineAfter_191, r_M_lineAfter_192, r_M_lineAfter_193, r_M_lineAfter_196, r_M_lineAfter_197, r_M_lineAfter_198, r_M_lineAfter_199, e, el, er, il, ir, ik, nl, nr, nk, true_and, cf_wa_s, cf_wa_n, pk_us, pk_un, ne_eq, Nat.reduceEqDiff, not_false_eq_true, reduceCtorEq, nI_1, cf_wa_wa, and_self]
    by_cases h : v l = 0
    · simp only [h, not_true_eq_false, ↓reduceIte, and_self]
    · simp only [h, not_false_eq_true, ↓reduceIte, and_self]
  · obtain ⟨i, hi, ei⟩ := hq (Or.inr (Or.inr e))
    rw [cf_nx_6 e]
    have ii := cf_in_nI hi (show 8 < 2 ^ 31 by decide)
    have ni := nI_clamp (show i < 2 ^ 31 by omega)
    simp only [r_M_lineAfter_0, r_M_lineAfter_1, r_M_lineAfter_4, r_M_lineAfter_5, c_M_lineAfter_6 sp_M_left, r_M_lineAfter_9, r_M_lineAfter_10, r_M_lineAfter_11, r_M_lineAfter_14, r_M_lineAfter_15, c_M_lineAfter_16 sp_M_right, r_M_lineAfter_19, r_M_lineAfter_20, r_M_lineAfter_21, r_M_lineAfter_24, r_M_lineAfter_25, c_M_lineAfter_26 sp_M_operation, r_M_lineAfter_29_0, r_M_lineAfter_29_1, r_M_lineAfter_29_2, r_M_lineAfter_29_3, r_M_lineAfter_29_4, r_M_lineAfter_29_5, r_M_lineAfter_29_6, r_M_lineAfter_29_7, r_M_lineAfter_29_8, r_M_lineAfter_29_9, r_M_lineAfter_76, r_M_lineAfter_77, r_M_lineAfter_80, r_M_lineAfter_81, r_M_lineAfter_82, r_M_lineAfter_83, r_M_lineAfter_86, r_M_lineAfter_87, r_M_lineAfter_90, r_M_lineAfter_91, r_M_lineAfter_92, r_M_lineAfter_93, r_M_lineAfter_94, r_M_lineAfter_97, r_M_lineAfter_98, r_M_lineAfter_99, r_M_lineAfter_100, r_M_lineAfter_101, r_M_lineAfter_104, r_M_lineAfter_105, r_M_lineAfter_108, r_M_lineAfter_109, r_M_lineAfter_110, r_M_lineAfter_113, r_M_lineAfter_114, r_M_lineAfter_117, r_M_lineAfter_118, r_M_lineAfter_119, r_M_lineAfter_120, r_M_lineAfter_121, r_M_lineAfter_122, r_M_lineAfter_123, r_M_lineAfter_126, r_M_lineAfter_127, r_M_lineAfter_130, r_M_lineAfter_131, r_M_lineAfter_132, r_M_lineAfter_135, r_M_lineAfter_136, r_M_lineAfter_139, r_M_lineAfter_140, r_M_lineAfter_141, r_M_lineAfter_142, r_M_lineAfter_143, r_M_lineAfter_144, r_M_lineAfter_145, r_M_lineAfter_148, r_M_lineAfter_149, r_M_lineAfter_152, r_M_lineAfter_153, r_M_lineAfter_154, c_M_lineAfter_155 sp_M_operation, r_M_lineAfter_158, r_M_lineAfter_159, r_M_lineAfter_162, r_M_lineAfter_163, r_M_lineAfter_166, r_M_lineAfter_167, r_M_lineAfter_168, r_M_lineAfter_169, r_M_lineAfter_170, r_M_lineAfter_173, r_M_lineAfter_174, r_M_lineAfter_175, r_M_lineAfter_176, r_M_lineAfter_179, r_M_lineAfter_180, r_M_lineAfter_181, r_M_lineAfter_182, r_M_lineAfter_185, r_M_lineAfter_186, r_M_lineAfter_187, r_M_lineAfter_190, r_M_lineAfter_191, r_M_lineAfter_192, r_M_lineAfter_193, r_M_lineAfter_196, r_M_lineAfter_197, r_M_lineAfter_198, r_M_lineAfter_199, e, el, er, il, ir, ik, nl, nr, nk, true_and, cf_wa_s, cf_wa_n, pk_us, pk_un, ne_eq, Nat.reduceEqDiff, not_false_eq_true, reduceCtorEq, nI_1, cf_wa_wa, and_self, ei, ii, ni]
    by_cases h : cf_op (w 6 i) = 4
    · simp only [h, not_true_eq_false, ↓reduceIte, and_self]
    · simp only [h, not_false_eq_true, ↓reduceIte, and_self]
  · rw [cf_nx_7 e]
    simp only [r_M_lineAfter_0, r_M_lineAfter_1, r_M_lineAfter_4, r_M_lineAfter_5, c_M_lineAfter_6 sp_M_left, r_M_lineAfter_9, r_M_lineAfter_10, r_M_lineAfter_11, r_M_lineAfter_14, r_M_lineAfter_15, c_M_lineAfter_16 sp_M_right, r_M_lineAfter_19, r_M_lineAfter_20, r_M_lineAfter_21, r_M_lineAfter_24, r_M_lineAfter_25, c_M_lineAfter_26 sp_M_operation, r_M_lineAfter_29_0, r_M_lineAfter_29_1, r_M_lineAfter_29_2, r_M_lineAfter_29_3, r_M_lineAfter_29_4, r_M_lineAfter_29_5, r_M_lineAfter_29_6, r_M_lineAfter_29_7, r_M_lineAfter_29_8, r_M_lineAfter_29_9, r_M_lineAfter_76, r_M_lineAfter_77, r_M_lineAfter_80, r_M_lineAfter_81, r_M_lineAfter_82, r_M_lineAfter_83, r_M_lineAfter_86, r_M_lineAfter_87, r_M_lineAfter_90, r_M_lineAfter_91, r_M_lineAfter_92, r_M_lineAfter_93, r_M_lineAfter_94, r_M_lineAfter_97, r_M_lineAfter_98, r_M_lineAfter_99, r_M_lineAfter_100, r_M_lineAfter_101, r_M_lineAfter_104, r_M_lineAfter_105, r_M_lineAfter_108, r_M_lineAfter_109, r_M_lineAfter_110, r_M_lineAfter_113, r_M_lineAfter_114, r_M_lineAfter_117, r_M_lineAfter_118, r_M_lineAfter_119, r_M_lineAfter_120, r_M_lineAfter_121, r_M_lineAfter_122, r_M_lineAfter_123, r_M_lineAfter_126, r_M_lineAfter_127, r_M_lineAfter_130, r_M_lineAfter_131, r_M_lineAfter_132, r_M_lineAfter_135, r_M_lineAfter_136, r_M_lineAfter_139, r_M_lineAfter_140, r_M_lineAfter_141, r_M_lineAfter_142, r_M_lineAfter_143, r_M_lineAfter_144, r_M_lineAfter_145, r_M_lineAfter_148, r_M_lineAfter_149, r_M_lineAfter_152, r_M_lineAfter_153, r_M_lineAfter_154, c_M_lineAfter_155 sp_M_operation, r_M_lineAfter_158, r_M_lineAfter_159, r_M_lineAfter_162, r_M_lineAfter_163, r_M_lineAfter_166, r_M_lineAfter_167, r_M_lineAfter_168, r_M_lineAfter_169, r_M_lineAfter_170, r_M_lineAfter_173, r_M_lineAfter_174, r_M_lineAfter_175, r_M_lineAfter_176, r_M_lineAfter_179, r_M_lineAfter_180, r_M_lineAfter_181, r_M_lineAfter_182, r_M_lineAfter_185, r_M_lineAfter_186, r_M_lineAfter_187, r_M_lineAfter_190, r_M_lineAfter_191, r_M_lineAfter_192, r_M_lineAfter_193, r_M_lineAfter_196, r_M_lineAfter_197, r_M_lineAfter_198, r_M_lineAfter_199, e, el, er, il, ir, ik, nl, nr, nk, true_and, cf_wa_s, cf_wa_n, pk_us, pk_un, ne_eq, Nat.reduceEqDiff, not_false_eq_true, reduceCtorEq, nI_1, cf_wa_wa, and_self]
    by_cases h : v l = nI r
    · simp only [h, ↓reduceIte, and_self]
    · simp only [h, ↓reduceIte, and_self]
  · rw [cf_nx_8 e]
    simp only [r_M_lineAfter_0, r_M_lineAfter_1, r_M_lineAfter_4, r_M_lineAfter_5, c_M_lineAfter_6 sp_M_left, r_M_lineAfter_9, r_M_lineAfter_10, r_M_lineAfter_11, r_M_lineAfter_14, r_M_lineAfter_15, c_M_lineAfter_16 sp_M_right, r_M_lineAfter_19, r_M_lineAfter_20, r_M_lineAfter_21, r_M_lineAfter_24, r_M_lineAfter_25, c_M_lineAfter_26 sp_M_operation, r_M_lineAfter_29_0, r_M_lineAfter_29_1, r_M_lineAfter_29_2, r_M_lineAfter_29_3, r_M_lineAfter_29_4, r_M_lineAfter_29_5, r_M_lineAfter_29_6, r_M_lineAfter_29_7, r_M_lineAfter_29_8, r_M_lineAfter_29_9, r_M_lineAfter_76, r_M_lineAfter_77, r_M_lineAfter_80, r_M_lineAfter_81, r_M_lineAfter_82, r_M_lineAfter_83, r_M_lineAfter_86, r_M_lineAfter_87, r_M_lineAfter_90, r_M_lineAfter_91, r_M_lineAfter_92, r_M_lineAfter_93, r_M_lineAfter_94, r_M_lineAfter_97, r_M_lineAfter_98, r_M_lineAfter_99, r_M_lineAfter_100, r_M_lineAfter_101, r_M_lineAfter_104, r_M_lineAfter_105, r_M_lineAfter_108, r_M_lineAfter_109, r_M_lineAfter_110, r_M_lineAfter_113, r_M_lineAfter_114, r_M_lineAfter_117, r_M_lineAfter_118, r_M_lineAfter_119, r_M_lineAfter_120, r_M_lineAfter_121, r_M_lineAfter_122, r_M_lineAfter_123, r_M_lineAfter_126, r_M_lineAfter_127, r_M_lineAfter_130, r_M_lineAfter_131, r_M_lineAfter_132, r_M_lineAfter_135, r_M_lineAfter_136, r_M_lineAfter_139, r_M_lineAfter_140, r_M_lineAfter_141, r_M_lineAfter_142, r_M_lineAfter_143, r_M_lineAfter_144, r_M_lineAfter_145, r_M_lineAfter_148, r_M_lineAfter_149, r_M_lineAfter_152, r_M_lineAfter_153, r_M_lineAfter_154, c_M_lineAfter_155 sp_M_operation, r_M_lineAfter_158, r_M_lineAfter_159, r_M_lineAfter_162, r_M_lineAfter_163, r_M_lineAfter_166, r_M_lineAfter_167, r_M_lineAfter_168, r_M_lineAfter_169, r_M_lineAfter_170, r_M_lineAfter_173, r_M_lineAfter_174, r_M_lineAfter_175, r_M_lineAfter_176, r_M_lineAfter_179, r_M_lineAfter_180, r_M_lineAfter_181, r_M_lineAfter_182, r_M_lineAfter_185, r_M_lineAfter_186, r_M_lineAfter_187, r_M_lineAfter_190, r_M_lineAfter_191, r_M_lineAfter_192, r_M_lineAfter_193, r_M_lineAfter_196, r_M_lineAfter_197, r_M_lineAfter_198, r_M_lineAfter_199, e, el, er, il, ir, ik, nl, nr, nk, true_and, cf_wa_s, cf_wa_n, pk_us, pk_un, ne_eq, Nat.reduceEqDiff, not_false_eq_true, reduceCtorEq, nI_1, cf_wa_wa, and_self]
  · rw [cf_nx_0 (Or.inr e)]
    simp only [r_M_lineAfter_0, r_M_lineAfter_1, r_M_lineAfter_4, r_M_lineAfter_5, c_M_lineAfter_6 sp_M_left, r_M_lineAfter_9, r_M_lineAfter_10, r_M_lineAfter_11, r_M_lineAfter_14, r_M_lineAfter_15, c_M_lineAfter_16 sp_M_right, r_M_lineAfter_19, r_M_lineAfter_20, r_M_lineAfter_21, r_M_lineAfter_24, r_M_lineAfter_25, c_M_lineAfter_26 sp_M_operation, r_M_lineAfter_29_0, r_M_lineAfter_29_1, r_M_lineAfter_29_2, r_M_lineAfter_29_3, r_M_lineAfter_29_4, r_M_lineAfter_29_5, r_M_lineAfter_29_6, r_M_lineAfter_29_7, r_M_lineAfter_29_8, r_M_lineAfter_29_9, r_M_lineAfter_76, r_M_lineAfter_77, r_M_lineAfter_80, r_M_lineAfter_81, r_M_lineAfter_82, r_M_lineAfter_83, r_M_lineAfter_86, r_M_lineAfter_87, r_M_lineAfter_90, r_M_lineAfter_91, r_M_lineAfter_92, r_M_lineAfter_93, r_M_lineAfter_94, r_M_lineAfter_97, r_M_lineAfter_98, r_M_lineAfter_99, r_M_lineAfter_100, r_M_lineAfter_101, r_M_lineAfter_104, r_M_lineAfter_105, r_M_lineAfter_108, r_M_lineAfter_109, r_M_lineAfter_110, r_M_lineAfter_113, r_M_lineAfter_114, r_M_lineAfter_117, r_M_lineAfter_118, r_M_lineAfter_119, r_M_lineAfter_120, r_M_lineAfter_121, r_M_lineAfter_122, r_M_lineAfter_123, r_M_lineAfter_126, r_M_lineAfter_127, r_M_lineAfter_130, r_M_lineAfter_131, r_M_lineAfter_132, r_M_lineAfter_135, r_M_lineAfter_136, r_M_lineAfter_139, r_M_lineAfter_140, r_M_lineAfter_141, r_M_lineAfter_142, r_M_lineAfter_143, r_M_lineAfter_144, r_M_lineAfter_145, r_M_lineAfter_148, r_M_lineAfter_149, r_M_lineAfter_152, r_M_lineAfter_153, r_M_lineAfter_154, c_M_lineAfter_155 sp_M_operation, r_M_lineAfter_158, r_M_lineAfter_159, r_M_lineAfter_162, r_M_lineAfter_163, r_M_lineAfter_166, r_M_lineAfter_167, r_M_lineAfter_168, r_M_lineAfter_169, r_M_lineAfter_170, r_M_lineAfter_173, r_M_lineAfter_174, r_M_lineAfter_175, r_M_lineAfter_176, r_M_lineAfter_179, r_M_lineAfter_180, r_M_lineAfter_181, r_M_lineAfter_182, r_M_lineAfter_185, r_M_lineAfter_186, r_M_lineAfter_187, r_M_lineAfter_190, r_M_lineAfter_191, r_M_lineAfter_192, r_M_lineAfter_193, r_M_lineAfter_196, r_M_lineAfter_197, r_M_lineAfter_198, r_M_lineAfter_199, e, el, er, il, ir, ik, nl, nr, nk, true_and, cf_wa_s, cf_wa_n, pk_us, pk_un, ne_eq, Nat.reduceEqDiff, not_false_eq_true, reduceCtorEq, nI_1, cf_wa_wa, and_self]
/-- where a line leads: a check failed, or a line up to 8 -/
theorem cf_nx_to {p q v : Nat → Int32} {k : Nat} (hk : k < 8) (hc : cf_cd (p k)) (hq : cf_pk (p k) → ∃ i, i < 8 ∧ q k = nI i) : (cf_nx p q v k).1 = -1 ∨ ∃ j, j ≤ 8 ∧ (cf_nx p q v k).1 = nI j := by
  rcases cf_op10 hc with e | e | e | e | e | e | e | e | e | e
  · rw [cf_nx_0 (Or.inl e)]
    exact Or.inr ⟨k + 1, by omega, rfl⟩
  · rw [cf_nx_1 e]
    exact Or.inr ⟨k + 1, by omega, rfl⟩
  · rw [cf_nx_2 e]
    exact Or.inr ⟨k + 1, by omega, rfl⟩
  · rw [cf_nx_3 e]
    exact Or.inr ⟨k + 1, by omega, rfl⟩
  · obtain ⟨i, hi, ei⟩ := hq (Or.inl e)
    rw [cf_nx_45 (Or.inl e)]
    by_cases h : v (cf_lf (p k)).toNatClampNeg = 0
    · exact Or.inr ⟨i + 1, by omega, by simp only [h, ↓reduceIte, ei, nI_1]⟩
    · exact Or.inr ⟨k + 1, by omega, by simp only [h, ↓reduceIte]⟩
  · obtain ⟨i, hi, ei⟩ := hq (Or.inr (Or.inl e))
    rw [cf_nx_45 (Or.inr e)]
    by_cases h : v (cf_lf (p k)).toNatClampNeg = 0
    · exact Or.inr ⟨i + 1, by omega, by simp only [h, ↓reduceIte, ei, nI_1]⟩
    · exact Or.inr ⟨k + 1, by omega, by simp only [h, ↓reduceIte]⟩
  · obtain ⟨i, hi, ei⟩ := hq (Or.inr (Or.inr e))
    rw [cf_nx_6 e]
    by_cases h : cf_op (p (q k).toNatClampNeg) = 4
    · exact Or.inr ⟨i, by omega, by simp only [h, ↓reduceIte]; exact ei⟩
    · exact Or.inr ⟨k + 1, by omega, by simp only [h, ↓reduceIte]⟩
  · rw [cf_nx_7 e]
    by_cases h : v (cf_lf (p k)).toNatClampNeg = cf_rt (p k)
    · exact Or.inr ⟨k + 1, by omega, by simp only [h, ↓reduceIte]⟩
    · exact Or.inl (by simp only [h, ↓reduceIte])
  · rw [cf_nx_8 e]
    exact Or.inr ⟨k + 1, by omega, rfl⟩
  · rw [cf_nx_0 (Or.inr e)]
    exact Or.inr ⟨k + 1, by omega, rfl⟩
/-- the run from line k with f steps left: 1 passes, 2 fails -/
def cf_rn (p q : Nat → Int32) : Nat → (Nat → Int32) → Int32 → Int32
  | 0, _, k => if 8 ≤ k then 1 else 2
  | f + 1, v, k => if 8 ≤ k then 1 else if (cf_nx p q v k.toNatClampNeg).1 = -1 then 2 else cf_rn p q f (cf_nx p q v k.toNatClampNeg).2 (cf_nx p q v k.toNatClampNeg).1
theorem cf_rn_end {p q v : Nat → Int32} : ∀ f, cf_rn p q f v (nI 8) = 1 := by
  intro f
  cases f <;> simp only [cf_rn, cf_ge88, ↓reduceIte]
theorem cf_rn_s {p q v : Nat → Int32} {f k : Nat} (hk : k < 8) : cf_rn p q (f + 1) v (nI k) = if (cf_nx p q v k).1 = -1 then 2 else cf_rn p q f (cf_nx p q v k).2 (cf_nx p q v k).1 := by
  simp only [cf_rn, cf_ge8 hk, ↓reduceIte, nI_clamp (show k < 2 ^ 31 by omega)]
theorem lp_M_runWith {w : cf_Wd} {x : Int32} (hp : ∀ j, j < 8 → cf_cd (w 6 j)) (hq : ∀ j, j < 8 → cf_pk (w 6 j) → ∃ i, i < 8 ∧ w 7 j = nI i) : ∀ f s v j, s + f = 80 → j ≤ 8 → cf_wp T_M_runWith (19, [some (.inr 5), some (.inl x), some (.inl (nI j)), some (.inl (nI s))], [], cf_wa w 9 v) (cf_qi (fun r w1 => r = cf_rn (w 6) (w 7) f v (nI j) ∧ ∃ v', w1 = cf_wa w 9 v')) := by
  intro f
  have e80 : (80 : Int32) = nI 80 := by decide +kernel
  induction f with
  | zero =>
    intro s v j hs hj
    have e : s = 80 := by omega
    subst e
    have hc : ((80 : Int32) ≤ nI 80) = True := by decide +kernel
    refine r_M_runWith_19.mpr ?_
    simp only [r_M_runWith_0, r_M_runWith_1, r_M_runWith_4, r_M_runWith_5, r_M_runWith_8, r_M_runWith_9, r_M_runWith_12, r_M_runWith_13, r_M_runWith_14, r_M_runWith_15, r_M_runWith_16, r_M_runWith_17, r_M_runWith_18, r_M_runWith_20, r_M_runWith_22, r_M_runWith_25, r_M_runWith_26, r_M_runWith_28, r_M_runWith_31, r_M_runWith_32, r_M_runWith_33, r_M_runWith_36, r_M_runWith_37, r_M_runWith_38, r_M_runWith_39, r_M_runWith_42, r_M_runWith_43, r_M_runWith_44, r_M_runWith_47, r_M_runWith_50, r_M_runWith_51, r_M_runWith_53, r_M_runWith_56, r_M_runWith_57, r_M_runWith_60, r_M_runWith_61, hc, ↓reduceIte, cf_rn]
    by_cases h : (8 : Int32) ≤ nI j
    · simp only [h, ↓reduceIte]
      exact ⟨trivial, v, rfl⟩
    · simp only [h, ↓reduceIte]
      exact ⟨trivial, v, rfl⟩
  | succ f ih =>
    intro s v j hs hj
    have hc : ((80 : Int32) ≤ nI s) = False := by
      rw [e80]
      exact eq_false (nI_ge (by omega) (by decide))
    by_cases h8 : j = 8
    · subst h8
      refine r_M_runWith_19.mpr ?_
      simp only [r_M_runWith_0, r_M_runWith_1, r_M_runWith_4, r_M_runWith_5, r_M_runWith_8, r_M_runWith_9, r_M_runWith_12, r_M_runWith_13, r_M_runWith_14, r_M_runWith_15, r_M_runWith_16, r_M_runWith_17, r_M_runWith_18, r_M_runWith_20, r_M_runWith_22, r_M_runWith_25, r_M_runWith_26, r_M_runWith_28, r_M_runWith_31, r_M_runWith_32, r_M_runWith_33, r_M_runWith_36, r_M_runWith_37, r_M_runWith_38, r_M_runWith_39, r_M_runWith_42, r_M_runWith_43, r_M_runWith_44, r_M_runWith_47, r_M_runWith_50, r_M_runWith_51, r_M_runWith_53, r_M_runWith_56, r_M_runWith_57, r_M_runWith_60, r_M_runWith_61, hc, ↓reduceIte, cf_rn_end, cf_ge88]
      exact ⟨trivial, v, rfl⟩
    · have hk : j < 8 := by omega
      refine r_M_runWith_19.mpr ?_
      simp only [r_M_runWith_0, r_M_runWith_1, r_M_runWith_4, r_M_runWith_5, r_M_runWith_8, r_M_runWith_9, r_M_runWith_12, r_M_runWith_13, r_M_runWith_14, r_M_runWith_15, r_M_runWith_16, r_M_runWith_17, r_M_runWith_18, r_M_runWith_20, r_M_runWith_22, r_M_runWith_25, r_M_runWith_26, r_M_runWith_28, r_M_runWith_31, r_M_runWith_32, c_M_runWith_33 (sp_M_lineAfter hk (hp j hk) hp (hq j hk)), r_M_runWith_36, r_M_runWith_37, r_M_runWith_38, r_M_runWith_39, r_M_runWith_42, r_M_runWith_43, r_M_runWith_44, r_M_runWith_47, r_M_runWith_50, r_M_runWith_51, r_M_runWith_53, r_M_runWith_56, r_M_runWith_57, r_M_runWith_60, r_M_runWith_61, hc, ↓reduceIte, cf_ge8 hk, cf_rn_s hk, nI_1]
      rcases cf_nx_to (v := v) hk (hp j hk) (hq j hk) with e | ⟨i, hi, e⟩
      · rw [e, if_neg (fun x => x rfl), if_pos rfl]
        exact ⟨rfl, _, rfl⟩
      · have hn : ¬ nI i = -1 := by rw [cf_m1 (show i < 2 ^ 31 by omega)]; exact id
        rw [e, if_pos hn, if_neg hn]
        exact ih (s + 1) _ i (by omega) hi
theorem sp_M_runWith {w : cf_Wd} {x : Int32} (hp : ∀ j, j < 8 → cf_cd (w 6 j)) (hq : ∀ j, j < 8 → cf_pk (w 6 j) → ∃ i, i < 8 ∧ w 7 j = nI i) : ∃ r w1, F_M_runWith [.inr 5, .inl x] w = some (some (.inl r), w1) ∧ (r = cf_rn (w 6) (w 7) 80 (upd (cf_fill (w 9) 0 10) 0 x) 0 ∧ ∃ v', w1 = cf_wa w 9 v') := by
  refine e_M_runWith ?_
  have i0 : cf_in 0 10 = true := by decide +kernel
  have z0 : (0 : Int32).toNatClampNeg = 0 := by decide +kernel
  simp only [r_M_runWith_0, r_M_runWith_1, r_M_runWith_4, c_M_runWith_5 (sp_J_fill (k := 9) (N := 10) rfl rfl (by decide)), r_M_runWith_8, r_M_runWith_9, r_M_runWith_12, r_M_runWith_13, r_M_runWith_14, r_M_runWith_15, r_M_runWith_16, r_M_runWith_17, r_M_runWith_18, r_M_runWith_20, r_M_runWith_22, r_M_runWith_25, r_M_runWith_26, r_M_runWith_28, r_M_runWith_31, r_M_runWith_32, r_M_runWith_33, r_M_runWith_36, r_M_runWith_37, r_M_runWith_38, r_M_runWith_39, r_M_runWith_42, r_M_runWith_43, r_M_runWith_44, r_M_runWith_47, r_M_runWith_50, r_M_runWith_51, r_M_runWith_53, r_M_runWith_56, r_M_runWith_57, r_M_runWith_60, r_M_runWith_61, i0, z0, true_and, cf_wa_s, cf_wa_n, pk_us, pk_un, ne_eq, Nat.reduceEqDiff, not_false_eq_true, reduceCtorEq, cf_wa_wa]
  have h := lp_M_runWith (x := x) hp hq 80 0 (upd (cf_fill (w 9) 0 10) 0 x) 0 (by omega) (by omega)
  rw [nI_0] at h
  exact h
/-! the verdict on a program -/
def cf_bld (p : Nat → Int32) : Prop := cf_ho p ∧ (∃ q, cf_pO p q) ∧ cf_sb p
def cf_vd (p : Nat → Int32) (x r : Int32) : Prop := (cf_bld p ∧ ∃ q, cf_pO p q ∧ r = cf_rn p q 80 (upd (fun _ => 0) 0 x) 0) ∨ (¬ cf_bld p ∧ r = 3)
theorem cf_vd_fn {p : Nat → Int32} {x r s : Int32} (h : cf_vd p x r) (k : cf_vd p x s) : r = s := by
  rcases h with ⟨hb, q, hq, e⟩ | ⟨hb, e⟩
  · rcases k with ⟨_, q2, hq2, e2⟩ | ⟨kb, _⟩
    · have h3 : cf_pp p 8 = some ([], q) := hq
      have h4 : cf_pp p 8 = some ([], q2) := hq2
      rw [h3] at h4
      have h5 : q = q2 := congrArg Prod.snd (Option.some.inj h4)
      rw [e, e2, h5]
    · exact absurd hb kb
  · rcases k with ⟨kb, _⟩ | ⟨_, e2⟩
    · exact absurd kb hb
    · rw [e, e2]
theorem cf_rn_12 {p q : Nat → Int32} : ∀ f v k, cf_rn p q f v k = 1 ∨ cf_rn p q f v k = 2 := by
  intro f
  induction f with
  | zero =>
    intro v k
    unfold cf_rn
    by_cases h : (8 : Int32) ≤ k
    · rw [if_pos h]; exact Or.inl rfl
    · rw [if_neg h]; exact Or.inr rfl
  | succ f ih =>
    intro v k
    unfold cf_rn
    by_cases h : (8 : Int32) ≤ k
    · rw [if_pos h]; exact Or.inl rfl
    · rw [if_neg h]
      by_cases h2 : (cf_nx p q v k.toNatClampNeg).1 = -1
      · rw [if_pos h2]; exact Or.inr rfl
      · rw [if_neg h2]; exact ih _ _
theorem cf_vd_123 {p : Nat → Int32} {x r : Int32} (h : cf_vd p x r) : r = 1 ∨ r = 2 ∨ r = 3 := by
  rcases h with ⟨_, q, _, e⟩ | ⟨_, e⟩
  · rcases cf_rn_12 (p := p) (q := q) 80 (upd (fun _ => 0) 0 x) 0 with h | h
    · exact Or.inl (e.trans h)
    · exact Or.inr (Or.inl (e.trans h))
  · exact Or.inr (Or.inr e)
theorem cf_nx_congr {p q q2 v v2 : Nat → Int32} {k : Nat} (hc : cf_cd (p k)) (hq : cf_pk (p k) → q k = q2 k) (hv : ∀ i, i < 10 → v i = v2 i) : (cf_nx p q v k).1 = (cf_nx p q2 v2 k).1 ∧ ∀ i, i < 10 → (cf_nx p q v k).2 i = (cf_nx p q2 v2 k).2 i := by
  obtain ⟨o, l, r, ho, hl, hr, eo, el, er⟩ := cf_cd_p hc
  have nl := nI_clamp (show l < 2 ^ 31 by omega)
  have nr := nI_clamp (show r < 2 ^ 31 by omega)
  have vl := hv l hl
  have vr := hv r hr
  have hu : ∀ y i, i < 10 → upd v l y i = upd v2 l y i := fun y i hi => by
    unfold upd
    rw [hv i hi]
  rcases cf_op10 hc with e | e | e | e | e | e | e | e | e | e
  · rw [cf_nx_0 (Or.inl e), cf_nx_0 (Or.inl e)]
    exact ⟨rfl, hv⟩
  · rw [cf_nx_1 e, cf_nx_1 e, el, nl]
    exact ⟨rfl, hu _⟩
  · rw [cf_nx_2 e, cf_nx_2 e, el, nl, er, nr, vl, vr]
    exact ⟨rfl, hu _⟩
  · rw [cf_nx_3 e, cf_nx_3 e, el, nl, vl]
    refine ⟨rfl, fun i hi => ?_⟩
    by_cases h : v2 l ≤ 0
    · simp only [h, ↓reduceIte]; exact hv i hi
    · simp only [h, ↓reduceIte]; exact hu _ i hi
  · rw [cf_nx_45 (Or.inl e), cf_nx_45 (Or.inl e), el, nl, vl, hq (Or.inl e)]
    exact ⟨rfl, hv⟩
  · rw [cf_nx_45 (Or.inr e), cf_nx_45 (Or.inr e), el, nl, vl, hq (Or.inr (Or.inl e))]
    exact ⟨rfl, hv⟩
  · rw [cf_nx_6 e, cf_nx_6 e, hq (Or.inr (Or.inr e))]
    exact ⟨rfl, hv⟩
  · rw [cf_nx_7 e, cf_nx_7 e, el, nl, vl]
    exact ⟨rfl, hv⟩
  · rw [cf_nx_8 e, cf_nx_8 e, el, nl, er, nr, vr]
    exact ⟨rfl, hu _⟩
  · rw [cf_nx_0 (Or.inr e), cf_nx_0 (Or.inr e)]
    exact ⟨rfl, hv⟩
theorem cf_rn_congr {p q q2 : Nat → Int32} (hp : ∀ j, j < 8 → cf_cd (p j)) (hq : ∀ j, j < 8 → cf_pk (p j) → q j = q2 j ∧ ∃ i, i < 8 ∧ q2 j = nI i) : ∀ f v v2 j, j ≤ 8 → (∀ i, i < 10 → v i = v2 i) → cf_rn p q f v (nI j) = cf_rn p q2 f v2 (nI j) := by
  intro f
  induction f with
  | zero => intro v v2 j hj hv; rfl
  | succ f ih =>
    intro v v2 j hj hv
    by_cases h8 : j = 8
    · subst h8
      rw [cf_rn_end, cf_rn_end]
    · have hk : j < 8 := by omega
      obtain ⟨c1, c2⟩ := cf_nx_congr (q := q) (q2 := q2) (hp j hk) (fun h => (hq j hk h).1) hv
      rw [cf_rn_s hk, cf_rn_s hk, c1]
      rcases cf_nx_to (q := q2) (v := v2) hk (hp j hk) (fun h => (hq j hk h).2) with e | ⟨i, hi, e⟩
      · rw [if_pos e, if_pos e]
      · rw [e]
        by_cases h1 : nI i = -1
        · rw [if_pos h1, if_pos h1]
        · rw [if_neg h1, if_neg h1]
          exact ih _ _ i hi c2
/-- what Machine's judge answers -/
theorem sp_M_judge {w : cf_Wd} {x : Int32} (hp : ∀ j, j < 8 → cf_cd (w 6 j)) : ∃ r w1, F_M_judge [.inr 5, .inl x] w = some (some (.inl r), w1) ∧ (cf_vd (w 6) x r ∧ ∀ k, k ≠ 7 → k ≠ 8 → k ≠ 9 → w1 k = w k) := by
  refine e_M_judge ?_
  obtain ⟨x1, w1, h1, h1r, rfl⟩ := sp_M_hasOperations (w := w)
  simp only [r_M_judge_0, c_M_judge_1 (h1), r_M_judge_4, r_M_judge_7, r_M_judge_8, r_M_judge_11, r_M_judge_14, r_M_judge_15, r_M_judge_18, r_M_judge_21, r_M_judge_22, r_M_judge_23, r_M_judge_24, r_M_judge_25, r_M_judge_28]
  rcases h1r with ⟨rfl, hho⟩ | ⟨rfl, hho⟩
  · simp only [cf_q_0_1, cf_q_0_2, cf_q_0_3, cf_q_0_4, cf_q_0_5, cf_q_0_6, cf_q_0_7, cf_q_0_8, cf_q_0_9, cf_q_1_0, cf_q_1_2, cf_q_1_3, cf_q_1_4, cf_q_1_5, cf_q_1_6, cf_q_1_7, cf_q_1_8, cf_q_1_9, cf_q_2_0, cf_q_2_1, cf_q_2_3, cf_q_2_4, cf_q_2_5, cf_q_2_6, cf_q_2_7, cf_q_2_8, cf_q_2_9, cf_q_3_0, cf_q_3_1, cf_q_3_2, cf_q_3_4, cf_q_3_5, cf_q_3_6, cf_q_3_7, cf_q_3_8, cf_q_3_9, cf_q_4_0, cf_q_4_1, cf_q_4_2, cf_q_4_3, cf_q_4_5, cf_q_4_6, cf_q_4_7, cf_q_4_8, cf_q_4_9, cf_q_5_0, cf_q_5_1, cf_q_5_2, cf_q_5_3, cf_q_5_4, cf_q_5_6, cf_q_5_7, cf_q_5_8, cf_q_5_9, cf_q_6_0, cf_q_6_1, cf_q_6_2, cf_q_6_3, cf_q_6_4, cf_q_6_5, cf_q_6_7, cf_q_6_8, cf_q_6_9, cf_q_7_0, cf_q_7_1, cf_q_7_2, cf_q_7_3, cf_q_7_4, cf_q_7_5, cf_q_7_6, cf_q_7_8, cf_q_7_9, cf_q_8_0, cf_q_8_1, cf_q_8_2, cf_q_8_3, cf_q_8_4, cf_q_8_5, cf_q_8_6, cf_q_8_7, cf_q_8_9, cf_q_9_0, cf_q_9_1, cf_q_9_2, cf_q_9_3, cf_q_9_4, cf_q_9_5, cf_q_9_6, cf_q_9_7, cf_q_9_8, ↓reduceIte]
    obtain ⟨x2, w2, h2, a, st, rfl, h2r⟩ := sp_M_pairsBlocks (w := w1)
    have h6 : cf_wa (cf_wa w1 8 st) 7 a 6 = w1 6 := by simp only [cf_wa_s, cf_wa_n, pk_us, pk_un, ne_eq, Nat.reduceEqDiff, not_false_eq_true, reduceCtorEq]
    have h7 : cf_wa (cf_wa w1 8 st) 7 a 7 = a := by simp only [cf_wa_s, cf_wa_n, pk_us, pk_un, ne_eq, Nat.reduceEqDiff, not_false_eq_true, reduceCtorEq]
    have hfr : ∀ k, k ≠ 7 → k ≠ 8 → k ≠ 9 → cf_wa (cf_wa w1 8 st) 7 a k = w1 k := fun k k7 k8 _ => by
      rw [cf_wa_n _ _ k7, cf_wa_n _ _ k8]
    refine ⟨x2, _, h2, ?_⟩
    rcases h2r with ⟨rfl, q, hq, hI⟩ | ⟨rfl, hq⟩
    · simp only [cf_q_0_1, cf_q_0_2, cf_q_0_3, cf_q_0_4, cf_q_0_5, cf_q_0_6, cf_q_0_7, cf_q_0_8, cf_q_0_9, cf_q_1_0, cf_q_1_2, cf_q_1_3, cf_q_1_4, cf_q_1_5, cf_q_1_6, cf_q_1_7, cf_q_1_8, cf_q_1_9, cf_q_2_0, cf_q_2_1, cf_q_2_3, cf_q_2_4, cf_q_2_5, cf_q_2_6, cf_q_2_7, cf_q_2_8, cf_q_2_9, cf_q_3_0, cf_q_3_1, cf_q_3_2, cf_q_3_4, cf_q_3_5, cf_q_3_6, cf_q_3_7, cf_q_3_8, cf_q_3_9, cf_q_4_0, cf_q_4_1, cf_q_4_2, cf_q_4_3, cf_q_4_5, cf_q_4_6, cf_q_4_7, cf_q_4_8, cf_q_4_9, cf_q_5_0, cf_q_5_1, cf_q_5_2, cf_q_5_3, cf_q_5_4, cf_q_5_6, cf_q_5_7, cf_q_5_8, cf_q_5_9, cf_q_6_0, cf_q_6_1, cf_q_6_2, cf_q_6_3, cf_q_6_4, cf_q_6_5, cf_q_6_7, cf_q_6_8, cf_q_6_9, cf_q_7_0, cf_q_7_1, cf_q_7_2, cf_q_7_3, cf_q_7_4, cf_q_7_5, cf_q_7_6, cf_q_7_8, cf_q_7_9, cf_q_8_0, cf_q_8_1, cf_q_8_2, cf_q_8_3, cf_q_8_4, cf_q_8_5, cf_q_8_6, cf_q_8_7, cf_q_8_9, cf_q_9_0, cf_q_9_1, cf_q_9_2, cf_q_9_3, cf_q_9_4, cf_q_9_5, cf_q_9_6, cf_q_9_7, cf_q_9_8, ↓reduceIte]
      obtain ⟨x3, w3, h3, h3r, rfl⟩ := sp_M_setsBeforeReading (w := cf_wa (cf_wa w1 8 st) 7 a) (by rw [h6]; exact hp)
      rw [h6] at h3r
      refine ⟨x3, _, h3, ?_⟩
      rcases h3r with ⟨rfl, hsb⟩ | ⟨rfl, hsb⟩
      · simp only [cf_q_0_1, cf_q_0_2, cf_q_0_3, cf_q_0_4, cf_q_0_5, cf_q_0_6, cf_q_0_7, cf_q_0_8, cf_q_0_9, cf_q_1_0, cf_q_1_2, cf_q_1_3, cf_q_1_4, cf_q_1_5, cf_q_1_6, cf_q_1_7, cf_q_1_8, cf_q_1_9, cf_q_2_0, cf_q_2_1, cf_q_2_3, cf_q_2_4, cf_q_2_5, cf_q_2_6, cf_q_2_7, cf_q_2_8, cf_q_2_9, cf_q_3_0, cf_q_3_1, cf_q_3_2, cf_q_3_4, cf_q_3_5, cf_q_3_6, cf_q_3_7, cf_q_3_8, cf_q_3_9, cf_q_4_0, cf_q_4_1, cf_q_4_2, cf_q_4_3, cf_q_4_5, cf_q_4_6, cf_q_4_7, cf_q_4_8, cf_q_4_9, cf_q_5_0, cf_q_5_1, cf_q_5_2, cf_q_5_3, cf_q_5_4, cf_q_5_6, cf_q_5_7, cf_q_5_8, cf_q_5_9, cf_q_6_0, cf_q_6_1, cf_q_6_2, cf_q_6_3, cf_q_6_4, cf_q_6_5, cf_q_6_7, cf_q_6_8, cf_q_6_9, cf_q_7_0, cf_q_7_1, cf_q_7_2, cf_q_7_3, cf_q_7_4, cf_q_7_5, cf_q_7_6, cf_q_7_8, cf_q_7_9, cf_q_8_0, cf_q_8_1, cf_q_8_2, cf_q_8_3, cf_q_8_4, cf_q_8_5, cf_q_8_6, cf_q_8_7, cf_q_8_9, cf_q_9_0, cf_q_9_1, cf_q_9_2, cf_q_9_3, cf_q_9_4, cf_q_9_5, cf_q_9_6, cf_q_9_7, cf_q_9_8, not_false_eq_true, ↓reduceIte]
        have hq7 : ∀ j, j < 8 → cf_pk (w1 6 j) → a j = q j ∧ ∃ i, i < 8 ∧ q j = nI i := fun j hj hpk => hI.2.2.2 j hj hpk (by simp)
        obtain ⟨r, w4, h4, h4r, v, rfl⟩ := sp_M_runWith (w := cf_wa (cf_wa w1 8 st) 7 a) (x := x) (by rw [h6]; exact hp) (by
          rw [h6, h7]
          intro j hj hpk
          obtain ⟨e, i, hi, ei⟩ := hq7 j hj hpk
          exact ⟨i, hi, e.trans ei⟩)
        refine ⟨r, _, h4, ?_, fun k k7 k8 k9 => ?_⟩
        · refine Or.inl ⟨⟨hho, ⟨q, hq⟩, hsb⟩, q, hq, ?_⟩
          rw [h4r, h6, h7]
          have hz : (0 : Int32) = nI 0 := by decide +kernel
          have := cf_rn_congr hp hq7 80 (upd (cf_fill (cf_wa (cf_wa w1 8 st) 7 a 9) 0 10) 0 x) (upd (fun _ => 0) 0 x) 0 (by omega) (fun i hi => by
            unfold upd cf_fill
            by_cases e : i = 0
            · simp [e]
            · simp [e, hi])
          rw [← hz] at this
          exact this
        · rw [cf_wa_n _ _ k9]
          exact hfr k k7 k8 k9
      · simp only [not_true_eq_false, ↓reduceIte]
        exact ⟨Or.inr ⟨fun h => hsb h.2.2, by simp⟩, hfr⟩
    · simp only [↓reduceIte]
      exact ⟨Or.inr ⟨fun h => hq h.2.1, by simp⟩, hfr⟩
  · simp only [↓reduceIte]
    exact ⟨Or.inr ⟨fun h => hho h.1, by simp⟩, fun k _ _ _ => by simp⟩
