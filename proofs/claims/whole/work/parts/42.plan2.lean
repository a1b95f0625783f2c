/-! planning while halving, and from the ends -/
def cf_Pl (w w1 : cf_Wd) (N g b : Nat) (V : Int32 → Int32) : Prop := cf_tup w1 = cf_wk (w 3) (w 2) (w 4) N g b V ∧ (∀ k, k ≠ 10 → k ≠ 11 → w1 k = w k) ∧ ∀ k, k ≠ 6 → k ≠ 12 → k ≠ 13 → k ≠ 14 → w1 10 k = w 10 k
theorem cf_bh_e {w : cf_Wd} {N wo : Nat} {V : Int32 → Int32} {S T : Int32} (H : cf_Hp w N) (hV : cf_Vt w V) (hT : ∀ c, c < 14 → (bt T c = true ↔ V (nI c) ≠ 0)) (hwo : wo < 14) (hVwo : V (nI wo) ≠ 0) : cf_bh w S = cf_mid (w 3) N S T wo := by
  have hN := H.1
  have h1 : cf_Bst (cf_el3 w S) (cf_lz (w 3) S) 0 14 (cf_bh w S) (cf_as (cf_el3 w S) (cf_lz (w 3) S) 14).2 := cf_as_b (cf_lz14 (w 3) S) 14
  obtain ⟨m2, h2⟩ := cf_mid_b (A := w 3) (S := S) (T := T) (wo := wo) hN
  have hel : ∀ c, c < 14 → cf_el3 w S c = (decide (c < N) && cf_el S T wo c) := fun c hc => by
    unfold cf_el3 cf_el
    rw [cf_has_n H.2.1 (by omega) (by omega), hV.1 c hc]
    have ht := hT c hc
    by_cases h0 : V (nI c) = 0
    · have hcw : ¬ c = wo := fun e => hVwo (e ▸ h0)
      have hb : bt T c = false := by
        cases hb : bt T c
        · rfl
        · exact absurd h0 (ht.mp hb)
      simp [h0, hcw, hb]
    · simp [h0, ht.mpr h0]
  have h1' : cf_Bst (cf_el S T wo) (cf_lz (w 3) S) 0 N (cf_bh w S) (cf_as (cf_el3 w S) (cf_lz (w 3) S) 14).2 := by
    rcases h1 with ⟨e1, e2, e3⟩ | ⟨c, c1, c2, c3, c4, c5, c6, c7⟩
    · refine Or.inl ⟨e1, e2, fun c a1 a2 => ?_⟩
      have := e3 c a1 (by omega)
      rw [hel c (by omega)] at this
      simpa [a2] using this
    · rw [hel c c2, Bool.and_eq_true, decide_eq_true_eq] at c3
      refine Or.inr ⟨c, c1, c3.1, c3.2, c4, c5, fun d d1 d2 d3 => c6 d d1 (by omega) ?_, fun d d1 d2 d3 => c7 d d1 d2 ?_⟩
      · rw [hel d (by omega)]
        simp [d2, d3]
      · rw [hel d (by omega)]
        have := c3.1
        simp [d3]
        omega
  exact cf_Bst_fn h1' h2
theorem pln17 {w : cf_Wd} {N g b j wo : Nat} {V : Int32 → Int32} {T : Int32} (H : cf_Hp w N) (hV : cf_Vt w V) (h6 : w 10 6 = 2) (h14 : w 10 14 = -1) (h13 : w 10 13 = -1) (h11 : w 11 1 = -1) (hb2 : V (nI b) = 2) (hg1 : V (nI g) = 1) (hj : j ≤ 12) (hwo : wo < N) (h10 : w 10 10 = nI wo) (hT : ∀ c, c < 14 → (bt T c = true ↔ V (nI c) ≠ 0)) (hVwo : V (nI wo) ≠ 0) (HP : cf_hv (w 3) N V 16 b (1 <<< (nI b &&& 31) ||| 1 <<< (nI g &&& 31)) (w 3 b &&& (w 3 g ^^^ -1)) = cf_hv (w 3) N V (16 - j) wo T (w 3 wo &&& (w 10 11 ^^^ -1))) : cf_wp T_S_plan (17, [some (.inr 10)], [], w) (cf_qv (fun w1 => cf_Pl w w1 N g b V ∧ (w1 10 6 = 2 → w1 10 12 = w 3 wo &&& (w 10 11 ^^^ -1)) ∧ w1 10 6 ≠ 1)) := by
  have hN := H.1
  have hwo14 : wo < 14 := by omega
  have hPH := sp_S_planHalving (w := w) hwo14 h10 rfl (H.m14 hwo) (fun c hc hh => by
    rw [cf_has_n H.2.1 (by omega) (by omega), decide_eq_true_eq] at hh
    exact H.m14 hh)
  rw [cf_bh_e H hV hT hwo14 hVwo] at hPH
  generalize hSe : w 3 wo &&& (w 10 11 ^^^ -1) = S at *
  obtain ⟨f, hf⟩ : ∃ f, 16 - j = f + 1 := ⟨15 - j, by omega⟩
  rw [hf] at HP
  rw [pl_17, if_neg (fun x => x h6)]
  refine ⟨_, hPH, ?_⟩
  rw [pl_29]
  have hwk := cf_wk_h (A := w 3) (Fi := w 2) (Li := w 4) (N := N) hb2 hg1
  rw [HP] at hwk
  rcases cf_mid_c (A := w 3) (S := S) (T := T) (wo := wo) hN with e | ⟨c, hcN, e, hel⟩
  · rw [if_pos e]
    by_cases hs : S = 1 <<< (nI wo &&& 31)
    · rw [cf_hv_a e hs] at hwk
      rw [if_pos hs]
      have k6 : cf_wa w 10 (upd (upd (upd (upd (w 10) 12 S) 14 (-1)) 13 (nI wo)) 6 3) 10 6 = 3 := by simp only [cf_wa_s, cf_wa_n, pk_us, pk_un, ne_eq, Nat.reduceEqDiff, not_false_eq_true, reduceCtorEq]
      rw [if_neg (fun x => x k6)]
      have H' : cf_Hp (cf_wa w 10 (upd (upd (upd (upd (w 10) 12 S) 14 (-1)) 13 (nI wo)) 6 3)) N := by
        unfold cf_Hp
        simp only [cf_wa_s, cf_wa_n, pk_us, pk_un, ne_eq, Nat.reduceEqDiff, not_false_eq_true, reduceCtorEq]
        exact H
      have hV' : cf_Vt (cf_wa w 10 (upd (upd (upd (upd (w 10) 12 S) 14 (-1)) 13 (nI wo)) 6 3)) V := by
        unfold cf_Vt
        simp only [cf_wa_s, cf_wa_n, pk_us, pk_un, ne_eq, Nat.reduceEqDiff, not_false_eq_true, reduceCtorEq]
        exact hV
      obtain ⟨w1, hF, ht, hfr, hfr2, hn1, hn2⟩ := pln3 H' hV' hwo k6 (by simp only [cf_wa_s, cf_wa_n, pk_us, pk_un, ne_eq, Nat.reduceEqDiff, not_false_eq_true, reduceCtorEq]) (by simp only [cf_wa_s, cf_wa_n, pk_us, pk_un, ne_eq, Nat.reduceEqDiff, not_false_eq_true, reduceCtorEq]) ⟨fun p _ _ => Or.inr (by simp only [cf_wa_s, cf_wa_n, pk_us, pk_un, ne_eq, Nat.reduceEqDiff, not_false_eq_true, reduceCtorEq]; exact h11), fun _ => by simp only [cf_wa_s, cf_wa_n, pk_us, pk_un, ne_eq, Nat.reduceEqDiff, not_false_eq_true, reduceCtorEq]; exact h11⟩
      refine ⟨w1, hF, ⟨?_, ?_, ?_⟩, fun h => absurd h hn2, hn1⟩
      · rw [ht, hwk]
        simp only [cf_wa_s, cf_wa_n, pk_us, pk_un, ne_eq, Nat.reduceEqDiff, not_false_eq_true, reduceCtorEq]
      · intro k k1 k2
        rw [hfr k k1 k2, cf_wa_n _ _ k1]
      · intro k k1 k2 k3 k4
        rw [hfr2 k k1 k4, cf_wa_s, pk_un k1, pk_un k3, pk_un k4, pk_un k2]
    · rw [cf_hv_b e hs, cf_tl_n (by decide)] at hwk
      rw [if_neg hs]
      have k6 : ¬ cf_wa w 10 (upd (upd (upd (w 10) 12 S) 14 (-1)) 6 5) 10 6 = 3 := by simp only [cf_wa_s, cf_wa_n, pk_us, pk_un, ne_eq, Nat.reduceEqDiff, not_false_eq_true, reduceCtorEq]; decide
      rw [if_pos k6]
      refine ⟨⟨?_, fun k k1 k2 => cf_wa_n _ _ k1, fun k k1 k2 k3 k4 => ?_⟩, fun h => ?_, ?_⟩
      · rw [hwk]
        unfold cf_tup
        simp only [cf_wa_s, cf_wa_n, pk_us, pk_un, ne_eq, Nat.reduceEqDiff, not_false_eq_true, reduceCtorEq, h13, h11]
      · rw [cf_wa_s, pk_un k1, pk_un k4, pk_un k2]
      · simp only [cf_wa_s, cf_wa_n, pk_us, pk_un, ne_eq, Nat.reduceEqDiff, not_false_eq_true, reduceCtorEq] at h
        exact absurd h (by decide)
      · simp only [cf_wa_s, cf_wa_n, pk_us, pk_un, ne_eq, Nat.reduceEqDiff, not_false_eq_true, reduceCtorEq]
        decide
  · have nm : ¬ nI c = -1 := by rw [cf_m1 (by omega)]; exact id
    have hc14 : c < 14 := by omega
    have h0 : V (nI c) = 0 := by
      have hb : bt T c = false := by
        unfold cf_el at hel
        cases hb : bt T c
        · rfl
        · rw [hb] at hel
          simp at hel
      by_cases h0 : V (nI c) = 0
      · exact h0
      · rw [(hT c hc14).mpr h0] at hb
        cases hb
    rw [cf_hv_c0 hc14 e h0, cf_tl_n (by decide)] at hwk
    rw [e, if_neg nm]
    have k6 : ¬ cf_wa w 10 (upd (upd (w 10) 12 S) 14 (nI c)) 10 6 = 3 := by simp only [cf_wa_s, cf_wa_n, pk_us, pk_un, ne_eq, Nat.reduceEqDiff, not_false_eq_true, reduceCtorEq, h6]; decide
    rw [if_pos k6]
    refine ⟨⟨?_, fun k k1 k2 => cf_wa_n _ _ k1, fun k k1 k2 k3 k4 => ?_⟩, fun h => ?_, ?_⟩
    · rw [hwk]
      unfold cf_tup
      simp only [cf_wa_s, cf_wa_n, pk_us, pk_un, ne_eq, Nat.reduceEqDiff, not_false_eq_true, reduceCtorEq, h6, h13, h11]
    · rw [cf_wa_s, pk_un k4, pk_un k2]
    · simp only [cf_wa_s, cf_wa_n, pk_us, pk_un, ne_eq, Nat.reduceEqDiff, not_false_eq_true, reduceCtorEq]
    · simp only [cf_wa_s, cf_wa_n, pk_us, pk_un, ne_eq, Nat.reduceEqDiff, not_false_eq_true, reduceCtorEq, h6]
      decide
