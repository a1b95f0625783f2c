/-! planning, whole -/
theorem cf_Pl_14 {w w1 : cf_Wd} {N g b : Nat} {V : Int32 → Int32} (h : cf_Pl (cf_wa w 10 (upd (w 10) 14 (-1))) w1 N g b V) : cf_Pl w w1 N g b V := by
  obtain ⟨h1, h2, h3⟩ := h
  refine ⟨?_, fun k k1 k2 => ?_, fun k k1 k2 k3 k4 => ?_⟩
  · rw [h1]
    simp only [cf_wa_s, cf_wa_n, pk_us, pk_un, ne_eq, Nat.reduceEqDiff, not_false_eq_true, reduceCtorEq]
  · rw [h2 k k1 k2, cf_wa_n _ _ k1]
  · rw [h3 k k1 k2 k3 k4, cf_wa_s, pk_un k4]
theorem cf_Hp_10 {w : cf_Wd} {N : Nat} {f : Nat → Int32} (h : cf_Hp w N) : cf_Hp (cf_wa w 10 f) N := by
  unfold cf_Hp
  simp only [cf_wa_s, cf_wa_n, pk_us, pk_un, ne_eq, Nat.reduceEqDiff, not_false_eq_true, reduceCtorEq]
  exact h
theorem cf_Vt_10 {w : cf_Wd} {V : Int32 → Int32} {f : Nat → Int32} (h : cf_Vt w V) : cf_Vt (cf_wa w 10 f) V := by
  unfold cf_Vt
  simp only [cf_wa_s, cf_wa_n, pk_us, pk_un, ne_eq, Nat.reduceEqDiff, not_false_eq_true, reduceCtorEq]
  exact h
theorem pln_2 {w : cf_Wd} {N g b j wo : Nat} {V : Int32 → Int32} {T : Int32} (H : cf_Hp w N) (hV : cf_Vt w V) (h6 : w 10 6 = 2) (h13 : w 10 13 = -1) (h11 : w 11 1 = -1) (hb2 : V (nI b) = 2) (hg1 : V (nI g) = 1) (hj : j ≤ 12) (hwo : wo < N) (h10 : w 10 10 = nI wo) (hT : ∀ c, c < 14 → (bt T c = true ↔ V (nI c) ≠ 0)) (hVwo : V (nI wo) ≠ 0) (HP : cf_hv (w 3) N V 16 b (1 <<< (nI b &&& 31) ||| 1 <<< (nI g &&& 31)) (w 3 b &&& (w 3 g ^^^ -1)) = cf_hv (w 3) N V (16 - j) wo T (w 3 wo &&& (w 10 11 ^^^ -1))) : ∃ w1, F_S_plan [.inr 10] w = some (none, w1) ∧ (cf_Pl w w1 N g b V ∧ (w1 10 6 = 2 → w1 10 12 = w 3 wo &&& (w 10 11 ^^^ -1)) ∧ w1 10 6 ≠ 1) := by
  refine e_S_plan ?_
  rw [pl_0, if_pos (by rw [h6]; decide)]
  have h := pln17 (w := cf_wa w 10 (upd (w 10) 14 (-1))) (g := g) (b := b) (j := j) (wo := wo) (T := T) (cf_Hp_10 H) (cf_Vt_10 hV) (by simp only [cf_wa_s, cf_wa_n, pk_us, pk_un, ne_eq, Nat.reduceEqDiff, not_false_eq_true, reduceCtorEq]; exact h6) (by simp only [cf_wa_s, cf_wa_n, pk_us, pk_un, ne_eq, Nat.reduceEqDiff, not_false_eq_true, reduceCtorEq]) (by simp only [cf_wa_s, cf_wa_n, pk_us, pk_un, ne_eq, Nat.reduceEqDiff, not_false_eq_true, reduceCtorEq]; exact h13) (by simp only [cf_wa_s, cf_wa_n, pk_us, pk_un, ne_eq, Nat.reduceEqDiff, not_false_eq_true, reduceCtorEq]; exact h11) hb2 hg1 hj hwo (by simp only [cf_wa_s, cf_wa_n, pk_us, pk_un, ne_eq, Nat.reduceEqDiff, not_false_eq_true, reduceCtorEq]; exact h10) hT hVwo (by simp only [cf_wa_s, cf_wa_n, pk_us, pk_un, ne_eq, Nat.reduceEqDiff, not_false_eq_true, reduceCtorEq]; exact HP)
  obtain ⟨q, q1, q2⟩ := h
  refine ⟨q, q1, ?_⟩
  obtain ⟨v, w1⟩ := q
  cases v with
  | some v => exact q2.elim
  | none =>
    obtain ⟨p1, p2, p3⟩ := q2
    simp only [cf_wa_s, cf_wa_n, pk_us, pk_un, ne_eq, Nat.reduceEqDiff, not_false_eq_true, reduceCtorEq] at p2
    exact ⟨cf_Pl_14 p1, p2, p3⟩
theorem pln_3 {w : cf_Wd} {N g b c : Nat} {V : Int32 → Int32} (H : cf_Hp w N) (hV : cf_Vt w V) (h6 : w 10 6 = 3) (hb2 : V (nI b) = 2) (hg1 : V (nI g) = 1) (hc : c < N) (h13 : w 10 13 = nI c) (hset : (∀ p, p < 14 → w 2 c = nI p → V (nI p) = 1 ∨ w 11 1 = -1) ∧ (w 2 c = -1 → w 11 1 = -1)) (HP : cf_hv (w 3) N V 16 b (1 <<< (nI b &&& 31) ||| 1 <<< (nI g &&& 31)) (w 3 b &&& (w 3 g ^^^ -1)) = (3, -1, w 10 12, nI c)) : ∃ w1, F_S_plan [.inr 10] w = some (none, w1) ∧ (cf_Pl w w1 N g b V ∧ w1 10 6 ≠ 1 ∧ w1 10 6 ≠ 2) := by
  refine e_S_plan ?_
  have k6 : cf_wa w 10 (upd (w 10) 14 (-1)) 10 6 = 3 := by simp only [cf_wa_s, cf_wa_n, pk_us, pk_un, ne_eq, Nat.reduceEqDiff, not_false_eq_true, reduceCtorEq]; exact h6
  rw [pl_0, if_pos (by rw [h6]; decide), pl_17, if_pos (by rw [k6]; decide), pl_29, if_neg (fun x => x k6)]
  obtain ⟨w1, hF, ht, hfr, hfr2, hn1, hn2⟩ := pln3 (w := cf_wa w 10 (upd (w 10) 14 (-1))) (c := c) (cf_Hp_10 H) (cf_Vt_10 hV) hc k6 (by simp only [cf_wa_s, cf_wa_n, pk_us, pk_un, ne_eq, Nat.reduceEqDiff, not_false_eq_true, reduceCtorEq]; exact h13) (by simp only [cf_wa_s, cf_wa_n, pk_us, pk_un, ne_eq, Nat.reduceEqDiff, not_false_eq_true, reduceCtorEq]) (by simp only [cf_wa_s, cf_wa_n, pk_us, pk_un, ne_eq, Nat.reduceEqDiff, not_false_eq_true, reduceCtorEq]; exact hset)
  refine ⟨w1, hF, cf_Pl_14 ⟨?_, hfr, fun k k1 k2 k3 k4 => hfr2 k k1 k4⟩, hn1, hn2⟩
  rw [ht]
  simp only [cf_wa_s, cf_wa_n, pk_us, pk_un, ne_eq, Nat.reduceEqDiff, not_false_eq_true, reduceCtorEq]
  rw [cf_wk_h hb2 hg1, HP]
theorem pln_1 {w : cf_Wd} {N g b : Nat} {V : Int32 → Int32} (H : cf_Hp w N) (hV : cf_Vt w V) (hg : g < N) (hb : b < N) (h6 : w 10 6 = 1) (h7 : w 10 7 = nI g) (h8 : w 10 8 = nI b) (h12 : w 10 12 = 0) (h13 : w 10 13 = -1) (h11 : w 11 1 = -1) (hx : V (nI b) = 2 → V (nI g) = 1 → w 10 10 = nI b ∧ w 10 11 = w 3 g ∧ ∀ c, c < 14 → (V (nI c) ≠ 0 ↔ (c = b ∨ c = g))) : ∃ w1, F_S_plan [.inr 10] w = some (none, w1) ∧ (cf_Pl w w1 N g b V ∧ (w1 10 6 = 1 → V (nI b) = 0 ∨ (V (nI b) = 2 ∧ V (nI g) = 0)) ∧ (w1 10 6 = 2 → V (nI b) = 2 ∧ V (nI g) = 1 ∧ w1 10 12 = w 3 b &&& (w 3 g ^^^ -1))) := by
  have hN := H.1
  have hg14 : g < 14 := by omega
  have hb14 : b < 14 := by omega
  refine e_S_plan ?_
  rw [pl_0, if_neg (fun x => x h6)]
  have hPE := sp_S_planEnds (w := cf_wa w 10 (upd (w 10) 14 (-1))) hg14 hb14 (by simp only [cf_wa_s, cf_wa_n, pk_us, pk_un, ne_eq, Nat.reduceEqDiff, not_false_eq_true, reduceCtorEq]; exact h7) (by simp only [cf_wa_s, cf_wa_n, pk_us, pk_un, ne_eq, Nat.reduceEqDiff, not_false_eq_true, reduceCtorEq]; exact h8)
  simp only [cf_wa_s, cf_wa_n, pk_us, pk_un, ne_eq, Nat.reduceEqDiff, not_false_eq_true, reduceCtorEq, cf_wa_wa] at hPE
  rw [hV.1 b hb14, hV.1 g hg14] at hPE
  refine ⟨_, hPE, ?_⟩
  by_cases vb0 : V (nI b) = 0
  · rw [if_pos vb0]
    have k6 : cf_wa w 10 (upd (upd (w 10) 14 (-1)) 14 (nI b)) 10 6 = 1 := by simp only [cf_wa_s, cf_wa_n, pk_us, pk_un, ne_eq, Nat.reduceEqDiff, not_false_eq_true, reduceCtorEq]; exact h6
    rw [pl_17, if_pos (by rw [k6]; decide), pl_29, if_pos (by rw [k6]; decide)]
    refine ⟨⟨?_, fun k k1 k2 => cf_wa_n _ _ k1, fun k k1 k2 k3 k4 => ?_⟩, fun _ => Or.inl vb0, fun h => ?_⟩
    · rw [cf_wk_b0 vb0]
      unfold cf_tup
      simp only [cf_wa_s, cf_wa_n, pk_us, pk_un, ne_eq, Nat.reduceEqDiff, not_false_eq_true, reduceCtorEq, h6, h12, h13, h11]
    · rw [cf_wa_s, pk_un k4, pk_un k4]
    · rw [k6] at h
      exact absurd h (by decide)
  · rw [if_neg vb0]
    by_cases vb2 : V (nI b) = 2
    · rw [if_neg (fun x => x vb2)]
      by_cases vg0 : V (nI g) = 0
      · rw [if_pos vg0]
        have k6 : cf_wa w 10 (upd (upd (w 10) 14 (-1)) 14 (nI g)) 10 6 = 1 := by simp only [cf_wa_s, cf_wa_n, pk_us, pk_un, ne_eq, Nat.reduceEqDiff, not_false_eq_true, reduceCtorEq]; exact h6
        rw [pl_17, if_pos (by rw [k6]; decide), pl_29, if_pos (by rw [k6]; decide)]
        refine ⟨⟨?_, fun k k1 k2 => cf_wa_n _ _ k1, fun k k1 k2 k3 k4 => ?_⟩, fun _ => Or.inr ⟨vb2, vg0⟩, fun h => ?_⟩
        · rw [cf_wk_g0 vb2 vg0]
          unfold cf_tup
          simp only [cf_wa_s, cf_wa_n, pk_us, pk_un, ne_eq, Nat.reduceEqDiff, not_false_eq_true, reduceCtorEq, h6, h12, h13, h11]
        · rw [cf_wa_s, pk_un k4, pk_un k4]
        · rw [k6] at h
          exact absurd h (by decide)
      · rw [if_neg vg0]
        by_cases vg1 : V (nI g) = 1
        · rw [if_pos vg1]
          obtain ⟨x10, x11, xV⟩ := hx vb2 vg1
          have hT : ∀ c, c < 14 → (bt (1 <<< (nI b &&& 31) ||| 1 <<< (nI g &&& 31)) c = true ↔ V (nI c) ≠ 0) := fun c hc => by
            rw [b_or, bt_sh (by omega) (by omega), bt_sh (by omega) (by omega), Bool.or_eq_true, decide_eq_true_eq, decide_eq_true_eq]
            exact (xV c hc).symm
          have h := pln17 (w := cf_wa w 10 (upd (upd (w 10) 14 (-1)) 6 2)) (g := g) (b := b) (j := 0) (wo := b) (T := 1 <<< (nI b &&& 31) ||| 1 <<< (nI g &&& 31)) (cf_Hp_10 H) (cf_Vt_10 hV) (by simp only [cf_wa_s, cf_wa_n, pk_us, pk_un, ne_eq, Nat.reduceEqDiff, not_false_eq_true, reduceCtorEq]) (by simp only [cf_wa_s, cf_wa_n, pk_us, pk_un, ne_eq, Nat.reduceEqDiff, not_false_eq_true, reduceCtorEq]) (by simp only [cf_wa_s, cf_wa_n, pk_us, pk_un, ne_eq, Nat.reduceEqDiff, not_false_eq_true, reduceCtorEq]; exact h13) (by simp only [cf_wa_s, cf_wa_n, pk_us, pk_un, ne_eq, Nat.reduceEqDiff, not_false_eq_true, reduceCtorEq]; exact h11) vb2 vg1 (by omega) hb (by simp only [cf_wa_s, cf_wa_n, pk_us, pk_un, ne_eq, Nat.reduceEqDiff, not_false_eq_true, reduceCtorEq]; exact x10) hT (by rw [vb2]; decide) (by simp only [cf_wa_s, cf_wa_n, pk_us, pk_un, ne_eq, Nat.reduceEqDiff, not_false_eq_true, reduceCtorEq]; rw [x11])
          obtain ⟨q, q1, q2⟩ := h
          refine ⟨q, q1, ?_⟩
          obtain ⟨v, w1⟩ := q
          cases v with
          | some v => exact q2.elim
          | none =>
            obtain ⟨⟨p1, p2, p3⟩, p4, p5⟩ := q2
            simp only [cf_wa_s, cf_wa_n, pk_us, pk_un, ne_eq, Nat.reduceEqDiff, not_false_eq_true, reduceCtorEq] at p4 p1
            refine ⟨⟨p1, fun k k1 k2 => by rw [p2 k k1 k2, cf_wa_n _ _ k1], fun k k1 k2 k3 k4 => by rw [p3 k k1 k2 k3 k4, cf_wa_s, pk_un k1, pk_un k4]⟩, fun h => absurd h p5, fun h => ⟨vb2, vg1, ?_⟩⟩
            rw [p4 h, x11]
        · rw [if_neg vg1]
          have k6 : cf_wa w 10 (upd (upd (w 10) 14 (-1)) 6 6) 10 6 = 6 := by simp only [cf_wa_s, cf_wa_n, pk_us, pk_un, ne_eq, Nat.reduceEqDiff, not_false_eq_true, reduceCtorEq]
          rw [pl_17, if_pos (by rw [k6]; decide), pl_29, if_pos (by rw [k6]; decide)]
          refine ⟨⟨?_, fun k k1 k2 => cf_wa_n _ _ k1, fun k k1 k2 k3 k4 => ?_⟩, fun h => ?_, fun h => ?_⟩
          · rw [cf_wk_g6 vb2 vg0 vg1]
            unfold cf_tup
            simp only [cf_wa_s, cf_wa_n, pk_us, pk_un, ne_eq, Nat.reduceEqDiff, not_false_eq_true, reduceCtorEq, h12, h13, h11]
          · rw [cf_wa_s, pk_un k1, pk_un k4]
          · rw [k6] at h
            exact absurd h (by decide)
          · rw [k6] at h
            exact absurd h (by decide)
    · rw [if_pos vb2]
      have k6 : cf_wa w 10 (upd (upd (w 10) 14 (-1)) 6 6) 10 6 = 6 := by simp only [cf_wa_s, cf_wa_n, pk_us, pk_un, ne_eq, Nat.reduceEqDiff, not_false_eq_true, reduceCtorEq]
      rw [pl_17, if_pos (by rw [k6]; decide), pl_29, if_pos (by rw [k6]; decide)]
      refine ⟨⟨?_, fun k k1 k2 => cf_wa_n _ _ k1, fun k k1 k2 k3 k4 => ?_⟩, fun h => ?_, fun h => ?_⟩
      · rw [cf_wk_b6 vb0 vb2]
        unfold cf_tup
        simp only [cf_wa_s, cf_wa_n, pk_us, pk_un, ne_eq, Nat.reduceEqDiff, not_false_eq_true, reduceCtorEq, h12, h13, h11]
      · rw [cf_wa_s, pk_un k1, pk_un k4]
      · rw [k6] at h
        exact absurd h (by decide)
      · rw [k6] at h
        exact absurd h (by decide)
