/-! the class's planning against the reference's work -/
section Tl
variable {Fi Li : Nat → Int32} {V : Int32 → Int32} {R : Nat → Int32 × Int32} {st nx S cu : Int32} {c p s : Nat}
theorem cf_tl_n (h : ¬ st = 3) : cf_tl Fi Li V R (st, nx, S, cu) = (st, nx, S, cu, -1) := if_pos h
theorem cf_tl_0 (hc : c < 14) (hp : Fi c = -1) : cf_tl Fi Li V R (3, nx, S, nI c) = (4, -1, S, nI c, -1) := by
  unfold cf_tl
  simp only [nI_clamp (show c < 2 ^ 31 by omega), hp, not_true_eq_false, ↓reduceIte]
theorem cf_tl_1 (hc : c < 14) (hp14 : p < 14) (hp : Fi c = nI p) (h0 : V (nI p) = 0) : cf_tl Fi Li V R (3, nx, S, nI c) = (3, nI p, S, nI c, -1) := by
  unfold cf_tl
  simp only [nI_clamp (show c < 2 ^ 31 by omega), hp, cf_m1 (show p < 2 ^ 31 by omega), h0, not_true_eq_false, ↓reduceIte]
theorem cf_tl_2 (hc : c < 14) (hp14 : p < 14) (hp : Fi c = nI p) (h0 : ¬ V (nI p) = 0) (h1 : ¬ V (nI p) = 1) : cf_tl Fi Li V R (3, nx, S, nI c) = (4, -1, S, nI c, -1) := by
  unfold cf_tl
  simp only [nI_clamp (show c < 2 ^ 31 by omega), hp, cf_m1 (show p < 2 ^ 31 by omega), h0, h1, not_true_eq_false, not_false_eq_true, ↓reduceIte]
theorem cf_tl_3 (hc : c < 14) (hp14 : p < 14) (hp : Fi c = nI p) (h1 : V (nI p) = 1) (hs : s < 256) (hch : cf_chg Li c p 8 = nI s) : cf_tl Fi Li V R (3, nx, S, nI c) = (if (R s).1 = -1 then 4 else 3, if (R s).1 = -1 then -1 else 1000 + (R s).1, S, nI c, (R s).2) := by
  unfold cf_tl
  simp only [nI_clamp (show c < 2 ^ 31 by omega), nI_clamp (show p < 2 ^ 31 by omega), hp, cf_m1 (show p < 2 ^ 31 by omega), h1, hch, cf_nIt hs, cf_q_0_1, cf_q_0_2, cf_q_0_3, cf_q_0_4, cf_q_0_5, cf_q_0_6, cf_q_0_7, cf_q_0_8, cf_q_0_9, cf_q_1_0, cf_q_1_2, cf_q_1_3, cf_q_1_4, cf_q_1_5, cf_q_1_6, cf_q_1_7, cf_q_1_8, cf_q_1_9, cf_q_2_0, cf_q_2_1, cf_q_2_3, cf_q_2_4, cf_q_2_5, cf_q_2_6, cf_q_2_7, cf_q_2_8, cf_q_2_9, cf_q_3_0, cf_q_3_1, cf_q_3_2, cf_q_3_4, cf_q_3_5, cf_q_3_6, cf_q_3_7, cf_q_3_8, cf_q_3_9, cf_q_4_0, cf_q_4_1, cf_q_4_2, cf_q_4_3, cf_q_4_5, cf_q_4_6, cf_q_4_7, cf_q_4_8, cf_q_4_9, cf_q_5_0, cf_q_5_1, cf_q_5_2, cf_q_5_3, cf_q_5_4, cf_q_5_6, cf_q_5_7, cf_q_5_8, cf_q_5_9, cf_q_6_0, cf_q_6_1, cf_q_6_2, cf_q_6_3, cf_q_6_4, cf_q_6_5, cf_q_6_7, cf_q_6_8, cf_q_6_9, cf_q_7_0, cf_q_7_1, cf_q_7_2, cf_q_7_3, cf_q_7_4, cf_q_7_5, cf_q_7_6, cf_q_7_8, cf_q_7_9, cf_q_8_0, cf_q_8_1, cf_q_8_2, cf_q_8_3, cf_q_8_4, cf_q_8_5, cf_q_8_6, cf_q_8_7, cf_q_8_9, cf_q_9_0, cf_q_9_1, cf_q_9_2, cf_q_9_3, cf_q_9_4, cf_q_9_5, cf_q_9_6, cf_q_9_7, cf_q_9_8, not_true_eq_false, ↓reduceIte]
end Tl
section Hv
variable {A Fi Li : Nat → Int32} {N f wo c g b : Nat} {V : Int32 → Int32} {S T : Int32}
theorem cf_hv_a (h : cf_mid A N S T wo = -1) (hs : S = 1 <<< (nI wo &&& 31)) : cf_hv A N V (f + 1) wo T S = (3, -1, S, nI wo) := by
  simp only [cf_hv]
  rw [if_pos h, if_pos hs]
theorem cf_hv_b (h : cf_mid A N S T wo = -1) (hs : ¬ S = 1 <<< (nI wo &&& 31)) : cf_hv A N V (f + 1) wo T S = (5, -1, S, -1) := by
  simp only [cf_hv]
  rw [if_pos h, if_neg hs]
theorem cf_hv_c0 (hc : c < 14) (h : cf_mid A N S T wo = nI c) (h0 : V (nI c) = 0) : cf_hv A N V (f + 1) wo T S = (2, nI c, S, -1) := by
  have nm : ¬ nI c = -1 := by rw [cf_m1 (by omega)]; exact id
  simp only [cf_hv, h]
  rw [if_neg nm, if_pos h0]
theorem cf_hv_cs (hc : c < 14) (h : cf_mid A N S T wo = nI c) (h0 : ¬ V (nI c) = 0) : cf_hv A N V (f + 1) wo T S = cf_hv A N V f (if V (nI c) = 2 then c else wo) (T ||| 1 <<< (nI c &&& 31)) (if V (nI c) = 2 then S &&& A c else if V (nI c) = 1 then S &&& (A c ^^^ -1) else S) := by
  have nm : ¬ nI c = -1 := by rw [cf_m1 (by omega)]; exact id
  simp only [cf_hv, h]
  rw [if_neg nm, if_neg h0, nI_clamp (by omega)]
theorem cf_wk_h (hb : V (nI b) = 2) (hg : V (nI g) = 1) : cf_wk A Fi Li N g b V = cf_tl Fi Li V (fun s => cf_rd V 64 s 2) (cf_hv A N V 16 b (1 <<< (nI b &&& 31) ||| 1 <<< (nI g &&& 31)) (A b &&& (A g ^^^ -1))) := by
  have nb : ¬ V (nI b) = 0 := by rw [hb]; decide
  have ng : ¬ V (nI g) = 0 := by rw [hg]; decide
  unfold cf_wk
  exact (if_neg nb).trans ((if_neg (fun x => x hb)).trans ((if_neg ng).trans (if_neg (fun x => x hg))))
theorem cf_wk_b0 (hb : V (nI b) = 0) : cf_wk A Fi Li N g b V = (1, nI b, 0, -1, -1) := if_pos hb
theorem cf_wk_b6 (h0 : ¬ V (nI b) = 0) (h2 : ¬ V (nI b) = 2) : cf_wk A Fi Li N g b V = (6, -1, 0, -1, -1) := (if_neg h0).trans (if_pos h2)
theorem cf_wk_g0 (hb : V (nI b) = 2) (hg : V (nI g) = 0) : cf_wk A Fi Li N g b V = (1, nI g, 0, -1, -1) := by
  have nb : ¬ V (nI b) = 0 := by rw [hb]; decide
  exact (if_neg nb).trans ((if_neg (fun x => x hb)).trans (if_pos hg))
theorem cf_wk_g6 (hb : V (nI b) = 2) (h0 : ¬ V (nI g) = 0) (h1 : ¬ V (nI g) = 1) : cf_wk A Fi Li N g b V = (6, -1, 0, -1, -1) := by
  have nb : ¬ V (nI b) = 0 := by rw [hb]; decide
  exact (if_neg nb).trans ((if_neg (fun x => x hb)).trans ((if_neg h0).trans (if_pos h1)))
end Hv
def cf_tup (w : cf_Wd) : Int32 × Int32 × Int32 × Int32 × Int32 := (w 10 6, w 10 14, w 10 12, w 10 13, w 11 1)
/-- history, as planning wants it -/
def cf_Hp (w : cf_Wd) (N : Nat) : Prop := N ≤ 14 ∧ w 1 4 = nI N ∧ (∀ c, c < N → w 2 c = -1 ∨ ∃ p, p < N ∧ w 2 c = nI p) ∧ (∀ c, c < N → ∀ i, i < 32 → bt (w 3 c) i = true → i ≤ c)
theorem cf_Hp.m14 {w : cf_Wd} {N : Nat} (h : cf_Hp w N) {c : Nat} (hc : c < N) : cf_m14 (w 3 c) := by
  have h14 := h.1
  have := cf_lt_bt (x := w 3 c) (k := 14) (by decide) (fun i hi hk => by
    cases hb : bt (w 3 c) i
    · rfl
    · have := h.2.2.2 c hc i hi hb
      omega)
  exact this
theorem cf_has_n {w : cf_Wd} {N c : Nat} (h : w 1 4 = nI N) (hN : N < 2 ^ 31) (hc : c < 2 ^ 31) : cf_has w (nI c) = decide (c < N) := by
  unfold cf_has
  rw [h]
  have e1 : (nI c < 0) = False := eq_false (nI_pos hc)
  have e2 : (nI N ≤ nI c) = (N ≤ c) := propext (nI_leI hN hc)
  simp only [e1, e2]
  by_cases h : c < N
  · simp [h]
  · simp [h, Nat.not_lt.mp h]
/-- the verdicts that the class keeps -/
def cf_Vt (w : cf_Wd) (V : Int32 → Int32) : Prop := (∀ c, c < 14 → w 14 c = V (nI c)) ∧ ∀ t, t < 256 → w 12 t = V (1000 + nI t)
theorem pln3 {w : cf_Wd} {N c : Nat} {V : Int32 → Int32} (H : cf_Hp w N) (hV : cf_Vt w V) (hc : c < N) (h6 : w 10 6 = 3) (h13 : w 10 13 = nI c) (h14 : w 10 14 = -1) (hset : (∀ p, p < 14 → w 2 c = nI p → V (nI p) = 1 ∨ w 11 1 = -1) ∧ (w 2 c = -1 → w 11 1 = -1)) : ∃ w1, F_S_planReducing [.inr 10] w = some (none, w1) ∧ cf_tup w1 = cf_tl (w 2) (w 4) V (fun s => cf_rd V 64 s 2) (3, -1, w 10 12, nI c) ∧ (∀ k, k ≠ 10 → k ≠ 11 → w1 k = w k) ∧ (∀ k, k ≠ 6 → k ≠ 14 → w1 10 k = w 10 k) ∧ w1 10 6 ≠ 1 ∧ w1 10 6 ≠ 2 := by
  have hc14 : c < 14 := by have := H.1; omega
  have hp14 : w 2 c = -1 ∨ ∃ p, p < 14 ∧ w 2 c = nI p := by
    rcases H.2.2.1 c hc with h | ⟨p, hp, e⟩
    · exact Or.inl h
    · exact Or.inr ⟨p, by have := H.1; omega, e⟩
  obtain ⟨w1, hF, hr⟩ := sp_S_planReducing (V := V) hc14 h13 hV.2 hp14
  refine ⟨w1, hF, ?_⟩
  rcases hr with ⟨hm, rfl⟩ | ⟨p, hp, ep, hr⟩
  · refine ⟨?_, fun k k1 k2 => cf_wa_n _ _ k1, fun k k1 k2 => by simp only [cf_wa_s]; exact pk_un k1, by simp only [cf_wa_s, pk_us]; decide, by simp only [cf_wa_s, pk_us]; decide⟩
    rw [cf_tl_0 hc14 hm]
    unfold cf_tup
    simp only [cf_wa_s, cf_wa_n, pk_us, pk_un, ne_eq, Nat.reduceEqDiff, not_false_eq_true, reduceCtorEq, h14, h13, hset.2 hm]
  · rcases hr with ⟨h0, rfl⟩ | ⟨h0, h1, rfl⟩ | ⟨h1, s, g', hs, es, hg, rfl⟩
    · rw [hV.1 p hp] at h0
      have h11 : w 11 1 = -1 := by
        rcases hset.1 p hp ep with h | h
        · rw [h0] at h
          exact absurd h (by decide)
        · exact h
      refine ⟨?_, fun k k1 k2 => cf_wa_n _ _ k1, fun k k1 k2 => by simp only [cf_wa_s]; exact pk_un k2, ?_, ?_⟩
      · rw [cf_tl_1 hc14 hp ep h0]
        unfold cf_tup
        simp only [cf_wa_s, cf_wa_n, pk_us, pk_un, ne_eq, Nat.reduceEqDiff, not_false_eq_true, reduceCtorEq, h6, h13, h11]
      · simp only [cf_wa_s, cf_wa_n, pk_us, pk_un, ne_eq, Nat.reduceEqDiff, not_false_eq_true, reduceCtorEq, h6]
        decide
      · simp only [cf_wa_s, cf_wa_n, pk_us, pk_un, ne_eq, Nat.reduceEqDiff, not_false_eq_true, reduceCtorEq, h6]
        decide
    · rw [hV.1 p hp] at h0 h1
      have h11 : w 11 1 = -1 := by
        rcases hset.1 p hp ep with h | h
        · exact absurd h h1
        · exact h
      refine ⟨?_, fun k k1 k2 => cf_wa_n _ _ k1, fun k k1 k2 => by simp only [cf_wa_s]; exact pk_un k1, by simp only [cf_wa_s, pk_us]; decide, by simp only [cf_wa_s, pk_us]; decide⟩
      rw [cf_tl_2 hc14 hp ep h0 h1]
      unfold cf_tup
      simp only [cf_wa_s, cf_wa_n, pk_us, pk_un, ne_eq, Nat.reduceEqDiff, not_false_eq_true, reduceCtorEq, h14, h13, h11]
    · rw [hV.1 p hp] at h1
      have ech : cf_chg (w 4) c p 8 = nI s := by rw [cf_chg_comm]; exact es
      rw [cf_tl_3 hc14 hp ep h1 hs ech]
      generalize cf_rd V 64 s 2 = r at *
      by_cases hr : r.1 = -1
      · simp only [hr, ↓reduceIte]
        refine ⟨?_, fun k k1 k2 => by rw [cf_wa_n _ _ k1, cf_wa_n _ _ k2], fun k k1 k2 => by simp only [cf_wa_s]; exact pk_un k1, by simp only [cf_wa_s, pk_us]; decide, by simp only [cf_wa_s, pk_us]; decide⟩
        unfold cf_tup
        simp only [cf_wa_s, cf_wa_n, pk_us, pk_un, ne_eq, Nat.reduceEqDiff, not_false_eq_true, reduceCtorEq, h14, h13, hg]
      · simp only [hr, ↓reduceIte]
        refine ⟨?_, fun k k1 k2 => by rw [cf_wa_n _ _ k1, cf_wa_n _ _ k2], fun k k1 k2 => by simp only [cf_wa_s]; exact pk_un k2, ?_, ?_⟩
        · unfold cf_tup
          simp only [cf_wa_s, cf_wa_n, pk_us, pk_un, ne_eq, Nat.reduceEqDiff, not_false_eq_true, reduceCtorEq, h6, h13, hg]
        · simp only [cf_wa_s, cf_wa_n, pk_us, pk_un, ne_eq, Nat.reduceEqDiff, not_false_eq_true, reduceCtorEq, h6]
          decide
        · simp only [cf_wa_s, cf_wa_n, pk_us, pk_un, ne_eq, Nat.reduceEqDiff, not_false_eq_true, reduceCtorEq, h6]
          decide
