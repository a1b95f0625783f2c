/-! commit: what stands in the search stays -/
theorem cf_wk_ext {A A' Fi Fi' Li Li' : Nat → Int32} {N g b : Nat} {V : Int32 → Int32} (hN : N + 1 ≤ 14) (hg : g < N) (hb : b < N) (hA : ∀ c, c < N → A' c = A c) (hFi : ∀ c, c < N → Fi' c = Fi c) (hLi : ∀ i, i < 8 * N → Li' i = Li i) (hF : ∀ c, c < N → Fi c = -1 ∨ ∃ p, p < N ∧ Fi c = nI p) (hS : ∀ i, N ≤ i → i < 14 → bt (A b) i = false) : cf_wk A' Fi' Li' (N + 1) g b V = cf_wk A Fi Li N g b V := by
  by_cases b0 : V (nI b) = 0
  · rw [cf_wk_b0 b0, cf_wk_b0 b0]
  · by_cases b2 : V (nI b) = 2
    · by_cases g0 : V (nI g) = 0
      · rw [cf_wk_g0 b2 g0, cf_wk_g0 b2 g0]
      · by_cases g1 : V (nI g) = 1
        · rw [cf_wk_h b2 g1, cf_wk_h b2 g1, hA b hb, hA g hg, cf_hv_ext (Nat.le_succ N) hN hA 16 b _ _ (fun i i1 i2 => by rw [b_and, hS i i1 i2]; rfl)]
          have hc3 := cf_hv_c (A := A) (N := N) (V := V) (by omega) 16 b (1 <<< (nI b &&& 31) ||| 1 <<< (nI g &&& 31)) (A b &&& (A g ^^^ -1)) hb
          generalize cf_hv A N V 16 b (1 <<< (nI b &&& 31) ||| 1 <<< (nI g &&& 31)) (A b &&& (A g ^^^ -1)) = hv at hc3 ⊢
          generalize (fun s => cf_rd V 64 s 2) = R
          obtain ⟨st, nx, S, cu⟩ := hv
          by_cases hst : st = 3
          · obtain ⟨c, hc, ec, en⟩ := hc3 hst
            have ec : cu = nI c := ec
            subst ec
            subst hst
            have hc14 : c < 14 := by omega
            rcases hF c hc with hp | ⟨p, hp, ep⟩
            · rw [cf_tl_0 hc14 hp, cf_tl_0 hc14 ((hFi c hc).trans hp)]
            · have hp14 : p < 14 := by omega
              have ep' := (hFi c hc).trans ep
              by_cases v0 : V (nI p) = 0
              · rw [cf_tl_1 hc14 hp14 ep v0, cf_tl_1 hc14 hp14 ep' v0]
              · by_cases v1 : V (nI p) = 1
                · obtain ⟨s, hs, es⟩ := cf_chg_256 (f := Li) (n := c) (m := p)
                  have es' : cf_chg Li' c p 8 = nI s := by
                    rw [cf_chg_congr (f := Li') (g := Li) (fun k hk => ⟨hLi _ (by omega), hLi _ (by omega)⟩) 8 (Nat.le_refl 8)]
                    exact es
                  rw [cf_tl_3 hc14 hp14 ep v1 hs es, cf_tl_3 hc14 hp14 ep' v1 hs es']
                · rw [cf_tl_2 hc14 hp14 ep v0 v1, cf_tl_2 hc14 hp14 ep' v0 v1]
          · rw [cf_tl_n hst, cf_tl_n hst]
        · rw [cf_wk_g6 b2 g0 g1, cf_wk_g6 b2 g0 g1]
    · rw [cf_wk_b6 b0 b2, cf_wk_b6 b0 b2]
theorem cf_Se_ext {w w2 : cf_Wd} {N m g b : Nat} (Hp : cf_Hp w N) (hN : N + 1 ≤ 14) (h5 : cf_Se w N m g b) (e10 : w2 10 = w 10) (e11 : w2 11 = w 11) (e12 : w2 12 = w 12) (e13 : w2 13 = w 13) (e14 : w2 14 = w 14) (e20 : w2 20 = w 20) (e21 : w2 21 = w 21) (e15 : ∀ k, k ≠ 0 → w2 15 k = w 15 k) (hA : ∀ c, c < N → w2 3 c = w 3 c) (hFi : ∀ c, c < N → w2 2 c = w 2 c) (hLi : ∀ i, i < 8 * N → w2 4 i = w 4 i) : cf_Se w2 (N + 1) m g b := by
  have eV : cf_V w2 m = cf_V w m := by
    unfold cf_V
    rw [e20, e21]
  obtain ⟨h1, ⟨hg, hb, hgb⟩, h3, h4, h5, h6, h7⟩ := h5
  have bits : ∀ c, c < N → ∀ i, N ≤ i → i < 14 → bt (w 3 c) i = false := fun c hc i i1 i2 => by
    cases hx : bt (w 3 c) i
    · rfl
    · have := Hp.2.2.2 c hc i (by omega) hx
      omega
  unfold cf_Se
  rw [eV, e10, e13, e20, e21, e15 5 (by decide), e15 11 (by decide), e15 6 (by decide), e15 7 (by decide), e15 8 (by decide), e15 9 (by decide)]
  refine ⟨h1, ⟨by omega, by omega, hgb⟩, h3, h4, ?_, ?_, ?_⟩
  · unfold cf_Vt at h5 ⊢
    rw [e12, e14]
    exact h5
  · unfold cf_tup at h6 ⊢
    rw [e10, e11, cf_wk_ext hN hg hb hA hFi hLi Hp.2.2.1 (bits b hb)]
    exact h6
  · unfold cf_In at h7 ⊢
    rw [eV, e10]
    refine ⟨h7.1, fun h => ?_⟩
    obtain ⟨j, wo, T, a1, a2, a3, a4, a5, a6, a7, a8⟩ := h7.2 h
    refine ⟨j, wo, T, a1, a2, by omega, a4, by rw [hA wo a3]; exact a5, a6, a7, fun V' hV' => ?_⟩
    have h9 := a8 V' hV'
    rw [hA b hb, hA g hg, cf_hv_ext (Nat.le_succ N) hN hA 16 b _ _ (fun i i1 i2 => by rw [b_and, bits b hb i i1 i2]; rfl), cf_hv_ext (Nat.le_succ N) hN hA (16 - j) wo _ _ (fun i i1 i2 => by rw [a5, b_and, bits wo a3 i i1 i2]; rfl)]
    exact h9
theorem cf_ora_bt {A : Nat → Int32} {x a : Int32} {i : Nat} : bt (cf_ora A x a) i = true ↔ (bt x i = true ∨ (a ≠ -1 ∧ bt (A a.toNatClampNeg) i = true)) := by
  unfold cf_ora
  by_cases h : a = -1
  · rw [if_pos h]
    exact ⟨Or.inl, fun k => k.elim id (fun k => absurd h k.1)⟩
  · rw [if_neg h, b_or, Bool.or_eq_true]
    exact ⟨fun k => k.elim Or.inl (fun k => Or.inr ⟨h, k⟩), fun k => k.elim Or.inl (fun k => Or.inr k.2)⟩
theorem cf_orp_bt {m a : Int32} {i : Nat} (hi : i < 14) (ha : a = -1 ∨ ∃ p, p < 14 ∧ a = nI p) : bt (cf_orp m a) i = true ↔ (bt m i = true ∨ a = nI i) := by
  unfold cf_orp
  rcases ha with rfl | ⟨p, hp, rfl⟩
  · rw [if_pos rfl]
    refine ⟨Or.inl, fun k => k.elim id (fun k => ?_)⟩
    have := cf_m1 (show i < 2 ^ 31 by omega)
    rw [← k] at this
    exact (Eq.mp this rfl).elim
  · rw [if_neg (by rw [cf_m1 (by omega)]; exact id), bt_or_sh (by omega) (by omega), Bool.or_eq_true, decide_eq_true_eq, nI_eq (by omega) (by omega)]
    exact ⟨fun k => k.elim Or.inl (fun k => Or.inr k.symm), fun k => k.elim Or.inl (fun k => Or.inr k.symm)⟩
theorem cf_Hi_add {w w2 : cf_Wd} {N : Nat} {a b : Int32} (hH : cf_Hi w N) (hN : N < 14) (ha : a = -1 ∨ ∃ p, p < N ∧ a = nI p) (hb : b = -1 ∨ ∃ p, p < N ∧ b = nI p) (e14 : w2 1 4 = nI (N + 1)) (e150 : w2 15 0 = nI (N + 1)) (e13 : w2 1 3 = cf_orp (cf_orp (w 1 3) a) b) (e2 : w2 2 = upd (w 2) N a) (e3 : w2 3 = upd (w 3) N (cf_ora (w 3) (cf_ora (w 3) (1 <<< (nI N &&& 31)) a) b)) (e4 : w2 4 = if a = -1 then w 4 else va_cpy (w 4) (w 4) (8 * a.toNatClampNeg) (8 * N) 8) (e16 : w2 16 = upd (w 16) N a) (e17 : w2 17 = upd (w 17) N b) (e18 : w2 18 = cf_cl (w 18) (cf_pv (w 18) a) N 8) (e19 : w2 19 = upd (w 19) N (cf_ora (w 19) (cf_ora (w 19) (1 <<< (nI N &&& 31)) a) b)) (e6 : w2 6 = w 6) (e22 : w2 22 = w 22) (e24 : w2 24 = w 24) : cf_Hi w2 (N + 1) := by
  obtain ⟨⟨q1, q2, q3⟩, ⟨q4, q5, q6⟩, qF, qA, qP, ⟨qc, qz⟩, qs⟩ := hH
  have a14 : a = -1 ∨ ∃ p, p < 14 ∧ a = nI p := by
    rcases ha with h | ⟨p, hp, h⟩
    · exact Or.inl h
    · exact Or.inr ⟨p, by omega, h⟩
  have b14 : b = -1 ∨ ∃ p, p < 14 ∧ b = nI p := by
    rcases hb with h | ⟨p, hp, h⟩
    · exact Or.inl h
    · exact Or.inr ⟨p, by omega, h⟩
  have e418 : w2 4 = w2 18 := by
    rw [e4, e18, ← q6]
    funext i
    unfold cf_cl cf_pv
    rcases ha with rfl | ⟨p, hp, rfl⟩
    · rw [if_pos rfl]
      by_cases h : 8 * N ≤ i ∧ i < 8 * N + 8
      · rw [if_pos h, if_pos rfl]
        exact qz i h.1
      · rw [if_neg h]
    · have pm : ¬ nI p = -1 := by rw [cf_m1 (by omega)]; exact id
      rw [if_neg pm]
      unfold va_cpy
      by_cases h : 8 * N ≤ i ∧ i < 8 * N + 8
      · rw [if_pos h, if_pos h, if_neg pm]
      · rw [if_neg h, if_neg h]
  have old : ∀ c, c ≠ N → w2 3 c = w 3 c := fun c hc => by rw [e3, pk_un hc]
  have newA : ∀ i, i < 32 → (bt (w2 3 N) i = true ↔ (i = N ∨ (∃ p, p < N ∧ a = nI p ∧ bt (w 3 p) i = true) ∨ ∃ p, p < N ∧ b = nI p ∧ bt (w 3 p) i = true)) := fun i hi => by
    rw [e3, pk_us, cf_ora_bt, cf_ora_bt, bt_sh (by omega) hi, decide_eq_true_eq]
    have key : ∀ x : Int32, (x = -1 ∨ ∃ p, p < N ∧ x = nI p) → ((x ≠ -1 ∧ bt (w 3 x.toNatClampNeg) i = true) ↔ ∃ p, p < N ∧ x = nI p ∧ bt (w 3 p) i = true) := by
      intro x hx
      rcases hx with rfl | ⟨p, hp, rfl⟩
      · refine ⟨fun k => absurd rfl k.1, fun ⟨p, hp, e, _⟩ => ?_⟩
        have := cf_m1 (show p < 2 ^ 31 by omega)
        rw [← e] at this
        exact (Eq.mp this rfl).elim
      · rw [nI_clamp (by omega)]
        refine ⟨fun k => ⟨p, hp, rfl, k.2⟩, fun ⟨p', hp', e, h⟩ => ⟨by rw [ne_eq, cf_m1 (by omega)]; exact id, ?_⟩⟩
        have : p = p' := (nI_eq (by omega) (by omega)).mp e
        rw [this]
        exact h
    rw [key a ha, key b hb, or_assoc]
  refine ⟨⟨by omega, e14, e150⟩, ⟨by rw [e2, e16, q4], by rw [e3, e19, q5], e418⟩, fun c hc => ?_, fun c hc => ?_, fun c hc => ?_, ⟨fun i => ?_, fun i hi => ?_⟩, by rw [e6, e22, e24]; exact qs⟩
  · by_cases e : c = N
    · subst e
      rw [e16, e17, pk_us, pk_us]
      exact ⟨ha, hb⟩
    · rw [e16, e17, pk_un e, pk_un e]
      exact qF c (by omega)
  · by_cases e : c = N
    · subst e
      refine ⟨(newA c (by omega)).mpr (Or.inl rfl), fun i hi h => ?_, fun i h j hj => ?_⟩
      · rcases (newA i hi).mp h with h | ⟨p, hp, _, h⟩ | ⟨p, hp, _, h⟩
        · omega
        · have := (qA p hp).2.1 i hi h
          omega
        · have := (qA p hp).2.1 i hi h
          omega
      · have hi : i < 32 := by
          by_cases hi : i < 32
          · exact hi
          · rw [b_big (by omega)] at h
            cases h
        have hj32 : j < 32 := by
          by_cases hj32 : j < 32
          · exact hj32
          · rw [b_big (by omega)] at hj
            cases hj
        rcases (newA i hi).mp h with h | ⟨p, hp, ep, h⟩ | ⟨p, hp, ep, h⟩
        · subst h
          exact hj
        · have hip := (qA p hp).2.1 i hi h
          rw [old i (by omega)] at hj
          exact (newA j hj32).mpr (Or.inr (Or.inl ⟨p, hp, ep, (qA p hp).2.2 i h j hj⟩))
        · have hip := (qA p hp).2.1 i hi h
          rw [old i (by omega)] at hj
          exact (newA j hj32).mpr (Or.inr (Or.inr ⟨p, hp, ep, (qA p hp).2.2 i h j hj⟩))
    · rw [old c e]
      have hcN : c < N := by omega
      refine ⟨(qA c hcN).1, (qA c hcN).2.1, fun i h j hj => ?_⟩
      have hi : i < 32 := by
        by_cases hi : i < 32
        · exact hi
        · rw [b_big (by omega)] at h
          cases h
      have := (qA c hcN).2.1 i hi h
      rw [old i (by omega)] at hj
      exact (qA c hcN).2.2 i h j hj
  · rw [e13, cf_orp_bt hc b14, cf_orp_bt hc a14, qP c hc, e16, e17]
    constructor
    · intro h
      rcases h with (⟨k, hk, h⟩ | h) | h
      · exact ⟨k, by omega, by rw [pk_un (by omega), pk_un (by omega)]; exact h⟩
      · exact ⟨N, by omega, by rw [pk_us, pk_us]; exact Or.inl h⟩
      · exact ⟨N, by omega, by rw [pk_us, pk_us]; exact Or.inr h⟩
    · intro ⟨k, hk, h⟩
      by_cases e : k = N
      · subst e
        rw [pk_us, pk_us] at h
        rcases h with h | h
        · exact Or.inl (Or.inr h)
        · exact Or.inr h
      · rw [pk_un e, pk_un e] at h
        exact Or.inl (Or.inl ⟨k, by omega, h⟩)
  · rw [e4]
    by_cases h : a = -1
    · rw [if_pos h]
      exact qc i
    · rw [if_neg h]
      unfold va_cpy
      by_cases h2 : 8 * N ≤ i ∧ i < 8 * N + 8
      · rw [if_pos h2]
        exact qc _
      · rw [if_neg h2]
        exact qc i
  · rw [e4]
    by_cases h : a = -1
    · rw [if_pos h]
      exact qz i (by omega)
    · rw [if_neg h]
      unfold va_cpy
      rw [if_neg (by omega)]
      exact qz i (by omega)
theorem tw_commit {w : cf_Wd} {n : Nat} {a b : Int32} (hn : n ≤ 512) (hI : cf_Inv w n) : cf_two F_C_commit F_P_commit [.inl a, .inl b] w (n + 1) := by
  have hI0 := hI
  obtain ⟨N, hH, hs, hr⟩ := hI
  have hH0 := hH
  have Hp := hH.Hp
  obtain ⟨⟨hN, h14, h150⟩, ⟨e2, e3, e4⟩, hF, hA, hP, ⟨hcd, hz⟩, hsc⟩ := hH
  have ina := cf_inn_has (c := a) hN h14 h150
  have inb := cf_inn_has (c := b) hN h14 h150
  have e14 : (14 : Int32) = nI 14 := by decide +kernel
  have hno : cf_may w a b = false → (¬ w 15 0 < 14 ∨ (¬ a = -1 ∧ cf_inn a 0 (w 15 0 - 1) = false) ∨ (¬ b = -1 ∧ cf_inn b 0 (w 15 0 - 1) = false) ∨ (a = -1 ∧ ¬ b = -1) ∨ (a = b ∧ ¬ a = -1)) → cf_two F_C_commit F_P_commit [.inl a, .inl b] w (n + 1) := by
    intro h1 h2
    refine ⟨-1, w, w, cf_is (e_C_commit ?_), sp_P_commitN h2, cf_Inv_up hI0⟩
    simp only [r_C_commit_0, r_C_commit_1, r_C_commit_4, r_C_commit_5, c_C_commit_6 sp_H_mayAdd, r_C_commit_9, r_C_commit_12, r_C_commit_13, r_C_commit_16, r_C_commit_17, r_C_commit_18, r_C_commit_21, r_C_commit_24, r_C_commit_25, h1, cf_b_e0, ↓reduceIte, and_self]
  have hyes : N < 14 → cf_may w a b = true → (a = -1 ∨ ∃ p, p < N ∧ a = nI p) → (b = -1 ∨ ∃ p, p < N ∧ b = nI p) → (a = -1 → b = -1) → (a ≠ -1 → a ≠ b) → cf_two F_C_commit F_P_commit [.inl a, .inl b] w (n + 1) := by
    intro hN14 hmay ha hb hab hne
    obtain ⟨x, w1, hAdd, ex, f5, f14, f13, f2, f3, f4⟩ := sp_H_add (w := w) hN14 h14 ha hb
    have g15 : w1 15 = w 15 := f5 15 (by decide)
    obtain ⟨y, w2, hPc, ey, ew⟩ := sp_P_commitY (w := w1) hN14 (by rw [g15]; exact h150) ha hb hab hne (fun p hp => by
      rw [g15, cf_inn_has hN h14 h150, cf_has_n h14 (by omega) (by omega)]
      simp [hp])
    subst ex
    subst ey
    refine ⟨nI N, w1, w2, cf_is (e_C_commit ?_), hPc, cf_Inv_up ?_⟩
    · simp only [r_C_commit_0, r_C_commit_1, r_C_commit_4, r_C_commit_5, c_C_commit_6 sp_H_mayAdd, r_C_commit_9, r_C_commit_12, r_C_commit_13, r_C_commit_16, r_C_commit_17, c_C_commit_18 (hAdd), r_C_commit_21, r_C_commit_24, r_C_commit_25, hmay, cf_b_e0, reduceCtorEq, ↓reduceIte, and_self]
    · have g16 := f5 16 (by decide)
      have g17 := f5 17 (by decide)
      have g18 := f5 18 (by decide)
      have g19 := f5 19 (by decide)
      rw [g15, g16, g17, g18, g19] at ew
      subst ew
      refine ⟨N + 1, cf_Hi_add hH0 hN14 ha hb (by simp only [cf_wa_s, cf_wa_n, pk_us, pk_un, ne_eq, Nat.reduceEqDiff, not_false_eq_true, reduceCtorEq]; exact f14) (by simp only [cf_wa_s, cf_wa_n, pk_us, pk_un, ne_eq, Nat.reduceEqDiff, not_false_eq_true, reduceCtorEq]) (by simp only [cf_wa_s, cf_wa_n, pk_us, pk_un, ne_eq, Nat.reduceEqDiff, not_false_eq_true, reduceCtorEq]; exact f13) (by simp only [cf_wa_s, cf_wa_n, pk_us, pk_un, ne_eq, Nat.reduceEqDiff, not_false_eq_true, reduceCtorEq]; exact f2) (by simp only [cf_wa_s, cf_wa_n, pk_us, pk_un, ne_eq, Nat.reduceEqDiff, not_false_eq_true, reduceCtorEq]; exact f3) (by simp only [cf_wa_s, cf_wa_n, pk_us, pk_un, ne_eq, Nat.reduceEqDiff, not_false_eq_true, reduceCtorEq]; exact f4) (by simp only [cf_wa_s, cf_wa_n, pk_us, pk_un, ne_eq, Nat.reduceEqDiff, not_false_eq_true, reduceCtorEq]) (by simp only [cf_wa_s, cf_wa_n, pk_us, pk_un, ne_eq, Nat.reduceEqDiff, not_false_eq_true, reduceCtorEq]) (by simp only [cf_wa_s, cf_wa_n, pk_us, pk_un, ne_eq, Nat.reduceEqDiff, not_false_eq_true, reduceCtorEq]) (by simp only [cf_wa_s, cf_wa_n, pk_us, pk_un, ne_eq, Nat.reduceEqDiff, not_false_eq_true, reduceCtorEq]) (by simp only [cf_wa_s, cf_wa_n, pk_us, pk_un, ne_eq, Nat.reduceEqDiff, not_false_eq_true, reduceCtorEq]; exact f5 6 (by decide)) (by simp only [cf_wa_s, cf_wa_n, pk_us, pk_un, ne_eq, Nat.reduceEqDiff, not_false_eq_true, reduceCtorEq]; exact f5 22 (by decide)) (by simp only [cf_wa_s, cf_wa_n, pk_us, pk_un, ne_eq, Nat.reduceEqDiff, not_false_eq_true, reduceCtorEq]; exact f5 24 (by decide)), ?_, ?_⟩
      · simp only [cf_wa_s, cf_wa_n, pk_us, pk_un, ne_eq, Nat.reduceEqDiff, not_false_eq_true, reduceCtorEq]
        rw [f5 10 (by decide)]
        exact hs
      · rcases hr with hr | ⟨m, g, b', h4, h5⟩
        · refine Or.inl ?_
          unfold cf_Nos cf_tup at hr ⊢
          simp only [cf_wa_s, cf_wa_n, pk_us, pk_un, ne_eq, Nat.reduceEqDiff, not_false_eq_true, reduceCtorEq]
          rw [f5 10 (by decide), f5 11 (by decide)]
          exact hr
        · refine Or.inr ⟨m, g, b', by simp only [cf_wa_s, cf_wa_n, pk_us, pk_un, ne_eq, Nat.reduceEqDiff, not_false_eq_true, reduceCtorEq]; rw [f5 10 (by decide)]; exact h4, cf_Se_ext Hp (by omega) h5 (by simp only [cf_wa_s, cf_wa_n, pk_us, pk_un, ne_eq, Nat.reduceEqDiff, not_false_eq_true, reduceCtorEq]; exact f5 10 (by decide)) (by simp only [cf_wa_s, cf_wa_n, pk_us, pk_un, ne_eq, Nat.reduceEqDiff, not_false_eq_true, reduceCtorEq]; exact f5 11 (by decide)) (by simp only [cf_wa_s, cf_wa_n, pk_us, pk_un, ne_eq, Nat.reduceEqDiff, not_false_eq_true, reduceCtorEq]; exact f5 12 (by decide)) (by simp only [cf_wa_s, cf_wa_n, pk_us, pk_un, ne_eq, Nat.reduceEqDiff, not_false_eq_true, reduceCtorEq]; exact f5 13 (by decide)) (by simp only [cf_wa_s, cf_wa_n, pk_us, pk_un, ne_eq, Nat.reduceEqDiff, not_false_eq_true, reduceCtorEq]; exact f5 14 (by decide)) (by simp only [cf_wa_s, cf_wa_n, pk_us, pk_un, ne_eq, Nat.reduceEqDiff, not_false_eq_true, reduceCtorEq]; exact f5 20 (by decide)) (by simp only [cf_wa_s, cf_wa_n, pk_us, pk_un, ne_eq, Nat.reduceEqDiff, not_false_eq_true, reduceCtorEq]; exact f5 21 (by decide)) (fun k hk => by simp only [cf_wa_s, cf_wa_n, pk_us, pk_un, ne_eq, Nat.reduceEqDiff, not_false_eq_true, reduceCtorEq]; exact pk_un hk) (fun c hc => by simp only [cf_wa_s, cf_wa_n, pk_us, pk_un, ne_eq, Nat.reduceEqDiff, not_false_eq_true, reduceCtorEq]; rw [f3, pk_un (by omega)]) (fun c hc => by simp only [cf_wa_s, cf_wa_n, pk_us, pk_un, ne_eq, Nat.reduceEqDiff, not_false_eq_true, reduceCtorEq]; rw [f2, pk_un (by omega)]) (fun i hi => ?_)⟩
          simp only [cf_wa_s, cf_wa_n, pk_us, pk_un, ne_eq, Nat.reduceEqDiff, not_false_eq_true, reduceCtorEq]
          rw [f4]
          by_cases h : a = -1
          · rw [if_pos h]
          · rw [if_neg h]
            unfold va_cpy
            rw [if_neg (by omega)]
  by_cases hN14 : N < 14
  · have n14 : ¬ w 1 4 = 14 := by
      rw [h14, e14, nI_eq (by omega) (by decide)]
      omega
    by_cases a1 : a = -1
    · by_cases b1 : b = -1
      · exact hyes hN14 (by simp [cf_may, n14, a1, b1]) (Or.inl a1) (Or.inl b1) (fun _ => b1) (fun h => absurd a1 h)
      · exact hno (by simp [cf_may, a1, b1]) (Or.inr (Or.inr (Or.inr (Or.inl ⟨a1, b1⟩))))
    · cases ha : cf_has w a
      · exact hno (by simp [cf_may, a1, ha]) (Or.inr (Or.inl ⟨a1, by rw [ina]; exact ha⟩))
      · have ha' := cf_has_of hN h14 ha
        by_cases b1 : b = -1
        · exact hyes hN14 (by simp [cf_may, n14, a1, b1, ha]) (Or.inr ha') (Or.inl b1) (fun h => absurd h a1) (fun _ e => a1 (e.trans b1))
        · cases hb : cf_has w b
          · exact hno (by simp [cf_may, a1, b1, hb]) (Or.inr (Or.inr (Or.inl ⟨b1, by rw [inb]; exact hb⟩)))
          · have hb' := cf_has_of hN h14 hb
            by_cases ab : b = a
            · exact hno (by simp [cf_may, a1, ab]) (Or.inr (Or.inr (Or.inr (Or.inr ⟨ab.symm, a1⟩))))
            · exact hyes hN14 (by simp [cf_may, n14, a1, b1, ha, hb, ab]) (Or.inr ha') (Or.inr hb') (fun h => absurd h a1) (fun _ e => ab e.symm)
  · have eN : N = 14 := by omega
    refine hno ?_ (Or.inl ?_)
    · have : w 1 4 = 14 := by rw [h14, eN, e14]
      simp [cf_may, this]
    · rw [h150, eN, e14]
      exact nI_nlt (Nat.le_refl 14) (by decide)
