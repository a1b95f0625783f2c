/-! class and reference side by side -/
def cf_Hi (w : cf_Wd) (N : Nat) : Prop :=
  (N ≤ 14 ∧ w 1 4 = nI N ∧ w 15 0 = nI N) ∧ (w 2 = w 16 ∧ w 3 = w 19 ∧ w 4 = w 18) ∧
  (∀ c, c < N → (w 16 c = -1 ∨ ∃ p, p < c ∧ w 16 c = nI p) ∧ (w 17 c = -1 ∨ ∃ p, p < c ∧ w 17 c = nI p)) ∧
  (∀ c, c < N → bt (w 3 c) c = true ∧ (∀ i, i < 32 → bt (w 3 c) i = true → i ≤ c) ∧ ∀ i, bt (w 3 c) i = true → ∀ j, bt (w 3 i) j = true → bt (w 3 c) j = true) ∧
  (∀ c, c < 14 → (bt (w 1 3) c = true ↔ ∃ k, k < N ∧ (w 16 k = nI c ∨ w 17 k = nI c))) ∧
  ((∀ i, cf_cd (w 4 i)) ∧ ∀ i, 8 * N ≤ i → w 4 i = 0) ∧
  ((∀ j, 8 ≤ j → w 6 j = 0) ∧ (∀ j, 8 ≤ j → w 22 j = 0) ∧ cf_bdd (w 24))
theorem cf_Hi.Hp {w : cf_Wd} {N : Nat} (h : cf_Hi w N) : cf_Hp w N := by
  obtain ⟨⟨h1, h2, h3⟩, ⟨a2, a3, a4⟩, hF, hA, _⟩ := h
  refine ⟨h1, h2, fun c hc => ?_, fun c hc => (hA c hc).2.1⟩
  rw [a2]
  rcases (hF c hc).1 with e | ⟨p, hp, e⟩
  · exact Or.inl e
  · exact Or.inr ⟨p, by omega, e⟩
def cf_V (w : cf_Wd) (m : Nat) : Int32 → Int32 := fun t => cf_kn (w 20) (w 21) t m
def cf_In (w : cf_Wd) (N m g b : Nat) : Prop :=
  (w 10 6 = 1 → w 10 11 = 0 ∧ ((∀ t, cf_V w m t = 0) ∨ (cf_V w m (nI b) = 2 ∧ (∀ t, t ≠ nI b → cf_V w m t = 0) ∧ w 10 10 = nI b))) ∧
  (w 10 6 = 2 → ∃ j wo T, j ≤ 12 ∧ cf_pw T = j + 2 ∧ wo < N ∧ w 10 10 = nI wo ∧ w 10 12 = w 3 wo &&& (w 10 11 ^^^ -1) ∧ (∀ c, c < 14 → (bt T c = true ↔ cf_V w m (nI c) ≠ 0)) ∧ cf_V w m (nI wo) ≠ 0 ∧ ∀ V' : Int32 → Int32, (∀ t, cf_V w m t ≠ 0 → V' t = cf_V w m t) → cf_hv (w 3) N V' 16 b (1 <<< (nI b &&& 31) ||| 1 <<< (nI g &&& 31)) (w 3 b &&& (w 3 g ^^^ -1)) = cf_hv (w 3) N V' (16 - j) wo T (w 10 12))
def cf_Se (w : cf_Wd) (N m g b : Nat) : Prop :=
  (w 15 5 = 1 ∧ w 15 11 = nI m ∧ w 10 5 = nI m ∧ w 15 6 = nI g ∧ w 10 7 = nI g ∧ w 15 7 = nI b ∧ w 10 8 = nI b ∧ w 15 8 = w 10 9 ∧ w 15 9 = w 10 15) ∧
  (g < N ∧ b < N ∧ g ≠ b) ∧ (w 10 15 = 0 ∨ (w 10 15 = 1 ∧ w 10 14 ≠ -1)) ∧
  (∀ k, k < m → w 13 k = 10 * w 20 k + w 21 k) ∧ cf_Vt w (cf_V w m) ∧ cf_tup w = cf_wk (w 3) (w 2) (w 4) N g b (cf_V w m) ∧ cf_In w N m g b
def cf_Nos (w : cf_Wd) : Prop := (w 15 5 = 0 ∧ w 15 9 = 0 ∧ w 10 5 = 0 ∧ w 10 15 = 0) ∧ cf_tup w = (0, -1, 0, -1, -1)
def cf_Inv (w : cf_Wd) (n : Nat) : Prop := ∃ N, cf_Hi w N ∧ w 10 16 = w 15 10 ∧ (cf_Nos w ∨ ∃ m g b, ((w 10 15 = 0 ∧ 2 * m ≤ n) ∨ (w 10 15 = 1 ∧ 2 * m + 1 ≤ n)) ∧ cf_Se w N m g b)
theorem cf_Inv_up {w : cf_Wd} {n : Nat} (h : cf_Inv w n) : cf_Inv w (n + 1) := by
  obtain ⟨N, h1, h2, h3⟩ := h
  refine ⟨N, h1, h2, ?_⟩
  rcases h3 with h3 | ⟨m, g, b, h4, h5⟩
  · exact Or.inl h3
  · refine Or.inr ⟨m, g, b, ?_, h5⟩
    rcases h4 with ⟨a, c⟩ | ⟨a, c⟩
    · exact Or.inl ⟨a, by omega⟩
    · exact Or.inr ⟨a, by omega⟩
/-- what neither the search nor the history looks at may change -/
theorem cf_Inv_same {w w2 : cf_Wd} {n : Nat} (h : ∀ k, k ≠ 6 → k ≠ 7 → k ≠ 8 → k ≠ 9 → k ≠ 15 → k ≠ 22 → k ≠ 23 → k ≠ 24 → k ≠ 25 → w2 k = w k) (h6 : (∀ j, 8 ≤ j → w 6 j = 0) → ∀ j, 8 ≤ j → w2 6 j = 0) (h22 : (∀ j, 8 ≤ j → w 22 j = 0) → ∀ j, 8 ≤ j → w2 22 j = 0) (h24 : cf_bdd (w 24) → cf_bdd (w2 24)) (h15 : ∀ k, k < 18 → w2 15 k = w 15 k) (hI : cf_Inv w n) : cf_Inv w2 n := by
  have e1 : w2 1 = w 1 := h 1 (by decide) (by decide) (by decide) (by decide) (by decide) (by decide) (by decide) (by decide) (by decide)
  have e2 : w2 2 = w 2 := h 2 (by decide) (by decide) (by decide) (by decide) (by decide) (by decide) (by decide) (by decide) (by decide)
  have e3 : w2 3 = w 3 := h 3 (by decide) (by decide) (by decide) (by decide) (by decide) (by decide) (by decide) (by decide) (by decide)
  have e4 : w2 4 = w 4 := h 4 (by decide) (by decide) (by decide) (by decide) (by decide) (by decide) (by decide) (by decide) (by decide)
  have e10 : w2 10 = w 10 := h 10 (by decide) (by decide) (by decide) (by decide) (by decide) (by decide) (by decide) (by decide) (by decide)
  have e11 : w2 11 = w 11 := h 11 (by decide) (by decide) (by decide) (by decide) (by decide) (by decide) (by decide) (by decide) (by decide)
  have e12 : w2 12 = w 12 := h 12 (by decide) (by decide) (by decide) (by decide) (by decide) (by decide) (by decide) (by decide) (by decide)
  have e13 : w2 13 = w 13 := h 13 (by decide) (by decide) (by decide) (by decide) (by decide) (by decide) (by decide) (by decide) (by decide)
  have e14 : w2 14 = w 14 := h 14 (by decide) (by decide) (by decide) (by decide) (by decide) (by decide) (by decide) (by decide) (by decide)
  have e16 : w2 16 = w 16 := h 16 (by decide) (by decide) (by decide) (by decide) (by decide) (by decide) (by decide) (by decide) (by decide)
  have e17 : w2 17 = w 17 := h 17 (by decide) (by decide) (by decide) (by decide) (by decide) (by decide) (by decide) (by decide) (by decide)
  have e18 : w2 18 = w 18 := h 18 (by decide) (by decide) (by decide) (by decide) (by decide) (by decide) (by decide) (by decide) (by decide)
  have e19 : w2 19 = w 19 := h 19 (by decide) (by decide) (by decide) (by decide) (by decide) (by decide) (by decide) (by decide) (by decide)
  have e20 : w2 20 = w 20 := h 20 (by decide) (by decide) (by decide) (by decide) (by decide) (by decide) (by decide) (by decide) (by decide)
  have e21 : w2 21 = w 21 := h 21 (by decide) (by decide) (by decide) (by decide) (by decide) (by decide) (by decide) (by decide) (by decide)
  have f0 := h15 0 (by decide)
  have f5 := h15 5 (by decide)
  have f6 := h15 6 (by decide)
  have f7 := h15 7 (by decide)
  have f8 := h15 8 (by decide)
  have f9 := h15 9 (by decide)
  have f10 := h15 10 (by decide)
  have f11 := h15 11 (by decide)
  obtain ⟨N, hH, hs, hr⟩ := hI
  refine ⟨N, ?_, by rw [e10, f10]; exact hs, ?_⟩
  · obtain ⟨q1, q2, q3, q4, q5, q6, q7, q8, q9⟩ := hH
    unfold cf_Hi
    rw [e1, e2, e3, e4, e16, e17, e18, e19, f0]
    exact ⟨q1, q2, q3, q4, q5, q6, h6 q7, h22 q8, h24 q9⟩
  · have eV : ∀ m, cf_V w2 m = cf_V w m := fun m => by
      unfold cf_V
      rw [e20, e21]
    rcases hr with hr | ⟨m, g, b, h4, h5⟩
    · refine Or.inl ?_
      unfold cf_Nos cf_tup at hr ⊢
      rw [e10, e11, f5, f9]
      exact hr
    · refine Or.inr ⟨m, g, b, by rw [e10]; exact h4, ?_⟩
      unfold cf_Se cf_In cf_Vt cf_tup at h5 ⊢
      rw [eV, e2, e3, e4, e10, e11, e12, e13, e14, e20, e21, f5, f6, f7, f8, f9, f11]
      exact h5
/-- the reference's work finds what the class keeps (w1: where the class has gone on already) -/
theorem cf_Inv_workG {w w1 : cf_Wd} {n : Nat} (hn : n ≤ 512) (hI : cf_Inv w n) (hw : ∀ k, 15 ≤ k → w1 k = w k) : ∃ f', F_P_work [.inr 15] w1 = some (none, cf_wa w1 15 f') ∧ (f' 18 = w 10 6 ∧ f' 19 = w 10 14 ∧ f' 20 = w 10 12 ∧ f' 21 = w 10 13 ∧ f' 22 = w 11 1) ∧ ∀ k, k ≠ 18 → k ≠ 19 → k ≠ 20 → k ≠ 21 → k ≠ 22 → f' k = w 15 k := by
  have g15 := hw 15 (by decide)
  have g16 := hw 16 (by decide)
  have g18 := hw 18 (by decide)
  have g19 := hw 19 (by decide)
  have g20 := hw 20 (by decide)
  have g21 := hw 21 (by decide)
  obtain ⟨N, hH, hs, hr⟩ := hI
  rcases hr with ⟨⟨a5, a9, b5, b15⟩, ht⟩ | ⟨m, g, b, h4, h5⟩
  · refine ⟨_, sp_P_work0 (by rw [g15]; exact a5), ?_, fun k k1 k2 k3 k4 k5 => by rw [g15]; simp [cf_w5, upd, k1, k2, k3, k4, k5]⟩
    unfold cf_tup at ht
    simp only [Prod.mk.injEq] at ht
    obtain ⟨t1, t2, t3, t4, t5⟩ := ht
    rw [t1, t2, t3, t4, t5]
    exact ⟨by simp [cf_w5, upd], by simp [cf_w5, upd], by simp [cf_w5, upd], by simp [cf_w5, upd], by simp [cf_w5, upd]⟩
  · have Hp := hH.Hp
    obtain ⟨⟨hN, h14, h150⟩, ⟨e2, e3, e4⟩, hF, hA, _⟩ := hH
    obtain ⟨⟨s5, s11, c5, s6, c7, s7, c8, s8, s9⟩, ⟨hg, hb, hgb⟩, hrun, hj, hVt, htu, hIn⟩ := h5
    have hm : m ≤ 600 := by
      rcases h4 with h4 | h4 <;> omega
    obtain ⟨w2, hW, f', e, h18, h19, h20, h21, h22, hfr⟩ := sp_P_work (w := w1) (m := m) hN hm (by rw [g15]; exact h150) (by rw [g15]; exact s5) (by rw [g15]; exact s6) (by rw [g15]; exact s7) (by rw [g15]; exact s11) hg hb (fun c hc => by rw [g19, ← e3]; exact Hp.m14 hc) (fun c hc => by
      rw [g16]
      rcases (hF c hc).1 with e | ⟨p, hp, e⟩
      · exact Or.inl e
      · exact Or.inr ⟨p, by omega, e⟩)
    rw [e] at hW
    refine ⟨f', hW, ?_, fun k k1 k2 k3 k4 k5 => by rw [hfr k k1 k2 k3 k4 k5, g15]⟩
    have hwk : cf_wk (w1 19) (w1 16) (w1 18) N g b (fun t => cf_kn (w1 20) (w1 21) t m) = cf_tup w := by
      rw [htu, e2, e3, e4, g16, g18, g19, g20, g21]
      rfl
    rw [hwk] at h18 h19 h20 h21 h22
    exact ⟨h18, h19, h20, h21, h22⟩
theorem cf_Inv_work {w : cf_Wd} {n : Nat} (hn : n ≤ 512) (hI : cf_Inv w n) : ∃ f', F_P_work [.inr 15] w = some (none, cf_wa w 15 f') ∧ (f' 18 = w 10 6 ∧ f' 19 = w 10 14 ∧ f' 20 = w 10 12 ∧ f' 21 = w 10 13 ∧ f' 22 = w 11 1) ∧ ∀ k, k ≠ 18 → k ≠ 19 → k ≠ 20 → k ≠ 21 → k ≠ 22 → f' k = w 15 k := cf_Inv_workG hn hI (fun _ _ => rfl)
theorem cf_Inv_15 {w : cf_Wd} {n : Nat} {f' : Nat → Int32} (h : ∀ k, k ≠ 18 → k ≠ 19 → k ≠ 20 → k ≠ 21 → k ≠ 22 → f' k = w 15 k) (hI : cf_Inv w n) : cf_Inv (cf_wa w 15 f') n := by
  refine cf_Inv_same (fun k _ _ _ _ k15 _ _ _ _ => cf_wa_n _ _ k15) (fun z => by simp only [cf_wa_s, cf_wa_n, pk_us, pk_un, ne_eq, Nat.reduceEqDiff, not_false_eq_true, reduceCtorEq]; exact z) (fun z => by simp only [cf_wa_s, cf_wa_n, pk_us, pk_un, ne_eq, Nat.reduceEqDiff, not_false_eq_true, reduceCtorEq]; exact z) (fun z => by simp only [cf_wa_s, cf_wa_n, pk_us, pk_un, ne_eq, Nat.reduceEqDiff, not_false_eq_true, reduceCtorEq]; exact z) (fun k hk => ?_) hI
  rw [cf_wa_s]
  exact h k (by omega) (by omega) (by omega) (by omega) (by omega)
/-! the calls that only look -/
def cf_two (FC FP : List cf_AV → cf_Wd → Option cf_Rs) (as : List cf_AV) (w : cf_Wd) (n : Nat) : Prop := ∃ x w1 w2, FC (.inr 0 :: as) w = some (some (.inl x), w1) ∧ FP (.inr 15 :: as) w1 = some (some (.inl x), w2) ∧ cf_Inv w2 n
theorem sp_C_next {w : cf_Wd} : F_C_next [.inr 0] w = some (some (.inl (w 10 14)), w) := by
  refine cf_is (e_C_next ?_)
  simp only [r_C_next_0, r_C_next_1, r_C_next_4, r_C_next_7, and_self]
theorem sp_C_state {w : cf_Wd} : F_C_state [.inr 0] w = some (some (.inl (w 10 6)), w) := by
  refine cf_is (e_C_state ?_)
  simp only [r_C_state_0, r_C_state_1, r_C_state_4, r_C_state_7, and_self]
theorem sp_C_suspects {w : cf_Wd} : F_C_suspects [.inr 0] w = some (some (.inl (w 10 12)), w) := by
  refine cf_is (e_C_suspects ?_)
  simp only [r_C_suspects_0, r_C_suspects_1, r_C_suspects_4, r_C_suspects_7, and_self]
theorem sp_C_culprit {w : cf_Wd} : F_C_culprit [.inr 0] w = some (some (.inl (w 10 13)), w) := by
  refine cf_is (e_C_culprit ?_)
  simp only [r_C_culprit_0, r_C_culprit_1, r_C_culprit_4, r_C_culprit_7, and_self]
theorem sp_C_reduced {w : cf_Wd} : F_C_reduced [.inr 0] w = some (some (.inl (w 11 1)), w) := by
  refine cf_is (e_C_reduced ?_)
  simp only [r_C_reduced_0, r_C_reduced_1, r_C_reduced_4, r_C_reduced_7, r_C_reduced_10, and_self]
theorem sp_C_started {w : cf_Wd} : F_C_started [.inr 0] w = some (some (.inl (w 10 16)), w) := by
  refine cf_is (e_C_started ?_)
  simp only [r_C_started_0, r_C_started_1, r_C_started_4, r_C_started_7, and_self]
theorem sp_C_journal {w : cf_Wd} : F_C_journal [.inr 0] w = some (some (.inl (w 10 5)), w) := by
  refine cf_is (e_C_journal ?_)
  simp only [r_C_journal_0, r_C_journal_1, r_C_journal_4, r_C_journal_7, and_self]
theorem tw_next {w : cf_Wd} {n : Nat} (hn : n ≤ 512) (hI : cf_Inv w n) : cf_two F_C_next F_P_next [] w (n + 1) := by
  obtain ⟨f', hW, ⟨h18, h19, h20, h21, h22⟩, hfr⟩ := cf_Inv_work hn hI
  refine ⟨_, _, cf_wa w 15 f', sp_C_next, cf_is (e_P_next ?_), cf_Inv_up (cf_Inv_15 hfr hI)⟩
  simp only [r_P_next_0, c_P_next_1 (hW), r_P_next_4, r_P_next_5, r_P_next_8, cf_wa_s, cf_wa_n, pk_us, pk_un, ne_eq, Nat.reduceEqDiff, not_false_eq_true, reduceCtorEq, h19, and_self]
theorem tw_state {w : cf_Wd} {n : Nat} (hn : n ≤ 512) (hI : cf_Inv w n) : cf_two F_C_state F_P_state [] w (n + 1) := by
  obtain ⟨f', hW, ⟨h18, h19, h20, h21, h22⟩, hfr⟩ := cf_Inv_work hn hI
  refine ⟨_, _, cf_wa w 15 f', sp_C_state, cf_is (e_P_state ?_), cf_Inv_up (cf_Inv_15 hfr hI)⟩
  simp only [r_P_state_0, c_P_state_1 (hW), r_P_state_4, r_P_state_5, r_P_state_8, cf_wa_s, cf_wa_n, pk_us, pk_un, ne_eq, Nat.reduceEqDiff, not_false_eq_true, reduceCtorEq, h18, and_self]
theorem tw_suspects {w : cf_Wd} {n : Nat} (hn : n ≤ 512) (hI : cf_Inv w n) : cf_two F_C_suspects F_P_suspects [] w (n + 1) := by
  obtain ⟨f', hW, ⟨h18, h19, h20, h21, h22⟩, hfr⟩ := cf_Inv_work hn hI
  refine ⟨_, _, cf_wa w 15 f', sp_C_suspects, cf_is (e_P_suspects ?_), cf_Inv_up (cf_Inv_15 hfr hI)⟩
  simp only [r_P_suspects_0, c_P_suspects_1 (hW), r_P_suspects_4, r_P_suspects_5, r_P_suspects_8, cf_wa_s, cf_wa_n, pk_us, pk_un, ne_eq, Nat.reduceEqDiff, not_false_eq_true, reduceCtorEq, h20, and_self]
theorem tw_culprit {w : cf_Wd} {n : Nat} (hn : n ≤ 512) (hI : cf_Inv w n) : cf_two F_C_culprit F_P_culprit [] w (n + 1) := by
  obtain ⟨f', hW, ⟨h18, h19, h20, h21, h22⟩, hfr⟩ := cf_Inv_work hn hI
  refine ⟨_, _, cf_wa w 15 f', sp_C_culprit, cf_is (e_P_culprit ?_), cf_Inv_up (cf_Inv_15 hfr hI)⟩
  simp only [r_P_culprit_0, c_P_culprit_1 (hW), r_P_culprit_4, r_P_culprit_5, r_P_culprit_8, cf_wa_s, cf_wa_n, pk_us, pk_un, ne_eq, Nat.reduceEqDiff, not_false_eq_true, reduceCtorEq, h21, and_self]
theorem tw_reduced {w : cf_Wd} {n : Nat} (hn : n ≤ 512) (hI : cf_Inv w n) : cf_two F_C_reduced F_P_reduced [] w (n + 1) := by
  obtain ⟨f', hW, ⟨h18, h19, h20, h21, h22⟩, hfr⟩ := cf_Inv_work hn hI
  refine ⟨_, _, cf_wa w 15 f', sp_C_reduced, cf_is (e_P_reduced ?_), cf_Inv_up (cf_Inv_15 hfr hI)⟩
  simp only [r_P_reduced_0, c_P_reduced_1 (hW), r_P_reduced_4, r_P_reduced_5, r_P_reduced_8, cf_wa_s, cf_wa_n, pk_us, pk_un, ne_eq, Nat.reduceEqDiff, not_false_eq_true, reduceCtorEq, h22, and_self]
theorem tw_started {w : cf_Wd} {n : Nat} (hn : n ≤ 512) (hI : cf_Inv w n) : cf_two F_C_started F_P_started [] w (n + 1) := by
  obtain ⟨N, hH, hs, hr⟩ := hI
  refine ⟨_, _, w, sp_C_started, cf_is (e_P_started ?_), cf_Inv_up ⟨N, hH, hs, hr⟩⟩
  simp only [r_P_started_0, r_P_started_1, r_P_started_4, hs, and_self]
theorem tw_journal {w : cf_Wd} {n : Nat} (hn : n ≤ 512) (hI : cf_Inv w n) : cf_two F_C_journal F_P_journal [] w (n + 1) := by
  refine ⟨_, _, w, sp_C_journal, cf_is (e_P_journal ?_), cf_Inv_up hI⟩
  obtain ⟨N, hH, hs, hr⟩ := hI
  rcases hr with ⟨⟨a5, a9, b5, b15⟩, ht⟩ | ⟨m, g, b, h4, h5⟩
  · simp only [r_P_journal_0, r_P_journal_1, r_P_journal_4, r_P_journal_7, r_P_journal_8, r_P_journal_11, r_P_journal_14, r_P_journal_15, a5, b5, ↓reduceIte, and_self]
  · simp only [r_P_journal_0, r_P_journal_1, r_P_journal_4, r_P_journal_7, r_P_journal_8, r_P_journal_11, r_P_journal_14, r_P_journal_15, h5.1.1, h5.1.2.1, h5.1.2.2.1, cf_q_0_1, cf_q_0_2, cf_q_0_3, cf_q_0_4, cf_q_0_5, cf_q_0_6, cf_q_0_7, cf_q_0_8, cf_q_0_9, cf_q_1_0, cf_q_1_2, cf_q_1_3, cf_q_1_4, cf_q_1_5, cf_q_1_6, cf_q_1_7, cf_q_1_8, cf_q_1_9, cf_q_2_0, cf_q_2_1, cf_q_2_3, cf_q_2_4, cf_q_2_5, cf_q_2_6, cf_q_2_7, cf_q_2_8, cf_q_2_9, cf_q_3_0, cf_q_3_1, cf_q_3_2, cf_q_3_4, cf_q_3_5, cf_q_3_6, cf_q_3_7, cf_q_3_8, cf_q_3_9, cf_q_4_0, cf_q_4_1, cf_q_4_2, cf_q_4_3, cf_q_4_5, cf_q_4_6, cf_q_4_7, cf_q_4_8, cf_q_4_9, cf_q_5_0, cf_q_5_1, cf_q_5_2, cf_q_5_3, cf_q_5_4, cf_q_5_6, cf_q_5_7, cf_q_5_8, cf_q_5_9, cf_q_6_0, cf_q_6_1, cf_q_6_2, cf_q_6_3, cf_q_6_4, cf_q_6_5, cf_q_6_7, cf_q_6_8, cf_q_6_9, cf_q_7_0, cf_q_7_1, cf_q_7_2, cf_q_7_3, cf_q_7_4, cf_q_7_5, cf_q_7_6, cf_q_7_8, cf_q_7_9, cf_q_8_0, cf_q_8_1, cf_q_8_2, cf_q_8_3, cf_q_8_4, cf_q_8_5, cf_q_8_6, cf_q_8_7, cf_q_8_9, cf_q_9_0, cf_q_9_1, cf_q_9_2, cf_q_9_3, cf_q_9_4, cf_q_9_5, cf_q_9_6, cf_q_9_7, cf_q_9_8, ↓reduceIte, and_self]
