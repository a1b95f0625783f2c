/-! finish: what the class plans behind a verdict -/
def cf_InV (w : cf_Wd) (N g b : Nat) (V : Int32 → Int32) : Prop :=
  (w 10 6 = 1 → w 10 11 = 0 ∧ ((∀ t, V t = 0) ∨ (V (nI b) = 2 ∧ (∀ t, t ≠ nI b → V t = 0) ∧ w 10 10 = nI b))) ∧
  (w 10 6 = 2 → ∃ j wo T, j ≤ 12 ∧ cf_pw T = j + 2 ∧ wo < N ∧ w 10 10 = nI wo ∧ w 10 12 = w 3 wo &&& (w 10 11 ^^^ -1) ∧ (∀ c, c < 14 → (bt T c = true ↔ V (nI c) ≠ 0)) ∧ V (nI wo) ≠ 0 ∧ ∀ V' : Int32 → Int32, (∀ t, V t ≠ 0 → V' t = V t) → cf_hv (w 3) N V' 16 b (1 <<< (nI b &&& 31) ||| 1 <<< (nI g &&& 31)) (w 3 b &&& (w 3 g ^^^ -1)) = cf_hv (w 3) N V' (16 - j) wo T (w 10 12))
theorem cf_hv_2 {A : Nat → Int32} {N : Nat} {V : Int32 → Int32} (hN : N ≤ 14) : ∀ f wo T S, (cf_hv A N V f wo T S).2.1 ≠ -1 → (cf_hv A N V f wo T S).1 = 2 := by
  intro f
  induction f with
  | zero => intro wo T S _; rfl
  | succ f ih =>
    intro wo T S h
    rcases cf_mid_c (A := A) (S := S) (T := T) (wo := wo) hN with e | ⟨c, hc, e, _⟩
    · by_cases h2 : S = 1 <<< (nI wo &&& 31)
      · rw [cf_hv_a e h2] at h
        exact absurd rfl h
      · rw [cf_hv_b e h2] at h
        exact absurd rfl h
    · by_cases h0 : V (nI c) = 0
      · rw [cf_hv_c0 (by omega) e h0]
      · rw [cf_hv_cs (by omega) e h0] at h ⊢
        exact ih _ _ _ h
theorem fin_core {w wK : cf_Wd} {N m g b : Nat} {r : Int32} {V V' : Int32 → Int32} (hH : cf_Hi w N) (hVe : cf_V w m = V) (h5 : cf_Se w N m g b) (hnx : w 10 14 ≠ -1) (hr : r = 1 ∨ r = 2 ∨ r = 3) (hV' : ∀ t, V' t = if w 10 14 = t then r else V t) (e1 : wK 1 = w 1) (e2 : wK 2 = w 2) (e3 : wK 3 = w 3) (e4 : wK 4 = w 4) (e11 : wK 11 = w 11) (eV : cf_Vt wK V') (e10 : ∀ k, k ≠ 5 → k ≠ 10 → k ≠ 11 → k ≠ 15 → wK 10 k = w 10 k) (eK : ∀ c, c < 14 → w 10 14 = nI c → wK 10 10 = (if r = 2 then nI c else w 10 10) ∧ wK 10 11 = (if r = 2 then w 10 11 else if r = 1 then w 10 11 ||| w 3 c else w 10 11)) : ∃ w1, F_S_plan [.inr 10] wK = some (none, w1) ∧ (cf_Pl wK w1 N g b V' ∧ cf_InV w1 N g b V') := by
  have Hp := hH.Hp
  have hN := Hp.1
  have HpK : cf_Hp wK N := by
    unfold cf_Hp at Hp ⊢
    rw [e1, e2, e3]
    exact Hp
  have hA := hH.2.2.2.1
  obtain ⟨⟨s5, s11, c5, s6, c7, s7, c8, s8, s9⟩, ⟨hg, hb, hgb⟩, hrun, hj, hVt, htu, hIn⟩ := h5
  unfold cf_In at hIn
  rw [hVe] at htu hVt hIn
  have r0 : r ≠ 0 := by rcases hr with rfl | rfl | rfl <;> decide
  have k6 := e10 6 (by decide) (by decide) (by decide) (by decide)
  have k7 := (e10 7 (by decide) (by decide) (by decide) (by decide)).trans c7
  have k8 := (e10 8 (by decide) (by decide) (by decide) (by decide)).trans c8
  have k12 := e10 12 (by decide) (by decide) (by decide) (by decide)
  have k13 := e10 13 (by decide) (by decide) (by decide) (by decide)
  have k14 := e10 14 (by decide) (by decide) (by decide) (by decide)
  have vn : V' (w 10 14) = r := by rw [hV', if_pos rfl]
  have vo : ∀ t, w 10 14 ≠ t → V' t = V t := fun t h => by rw [hV', if_neg h]
  have ngb : nI b ≠ nI g := fun e => hgb ((nI_eq (by omega) (by omega)).mp e).symm
  by_cases b0 : V (nI b) = 0
  · rw [cf_wk_b0 b0] at htu
    unfold cf_tup at htu
    simp only [Prod.mk.injEq] at htu
    obtain ⟨t6, t14, t12, t13, t11⟩ := htu
    obtain ⟨i11, iV⟩ := hIn.1 t6
    have z : ∀ t, V t = 0 := by
      rcases iV with h | ⟨h, _⟩
      · exact h
      · rw [b0] at h
        exact absurd h (by decide)
    obtain ⟨q10, q11⟩ := eK b (by omega) t14
    have vb : V' (nI b) = r := by rw [← t14]; exact vn
    have vg : V' (nI g) = 0 := by rw [vo (nI g) (by rw [t14]; exact ngb)]; exact z _
    obtain ⟨w1, hP, p1, p2, p3⟩ := pln_1 (w := wK) HpK eV hg hb (k6.trans t6) k7 k8 (k12.trans t12) (k13.trans t13) (by rw [e11]; exact t11) (fun _ h => by
      rw [vg] at h
      exact absurd h (by decide))
    refine ⟨w1, hP, p1, fun h => ?_, fun h => ?_⟩
    · rcases p2 h with h | ⟨h, _⟩
      · rw [vb] at h
        exact absurd h r0
      · rw [vb] at h
        have o10 := p1.2.2 10 (by decide) (by decide) (by decide) (by decide)
        have o11 := p1.2.2 11 (by decide) (by decide) (by decide) (by decide)
        rw [o10, o11, q10, q11, if_pos h, if_pos h]
        refine ⟨i11, Or.inr ⟨vb.trans h, fun t ht => ?_, rfl⟩⟩
        rw [vo t (by rw [t14]; exact fun e => ht e.symm)]
        exact z t
    · have := (p3 h).2.1
      rw [vg] at this
      exact absurd this (by decide)
  · by_cases b2 : V (nI b) = 2
    · by_cases g0 : V (nI g) = 0
      · rw [cf_wk_g0 b2 g0] at htu
        unfold cf_tup at htu
        simp only [Prod.mk.injEq] at htu
        obtain ⟨t6, t14, t12, t13, t11⟩ := htu
        obtain ⟨i11, iV⟩ := hIn.1 t6
        obtain ⟨z, i10⟩ : (∀ t, t ≠ nI b → V t = 0) ∧ w 10 10 = nI b := by
          rcases iV with h | ⟨_, h⟩
          · exact absurd (h (nI b)) b0
          · exact h
        obtain ⟨q10, q11⟩ := eK g (by omega) t14
        have vg : V' (nI g) = r := by rw [← t14]; exact vn
        have vb : V' (nI b) = 2 := by rw [vo (nI b) (by rw [t14]; exact fun e => ngb e.symm)]; exact b2
        have hx : V' (nI b) = 2 → V' (nI g) = 1 → wK 10 10 = nI b ∧ wK 10 11 = wK 3 g ∧ ∀ c, c < 14 → (V' (nI c) ≠ 0 ↔ (c = b ∨ c = g)) := by
          intro _ h1
          rw [vg] at h1
          have r2 : ¬ r = 2 := by rw [h1]; decide
          rw [q10, q11, if_neg r2, if_neg r2, if_pos h1, i10, i11, e3]
          refine ⟨rfl, ?_, fun c hc => ?_⟩
          · apply b_ext
            intro i _
            rw [b_or, b_0]
            rfl
          · by_cases ecg : c = g
            · rw [ecg, vg]
              exact ⟨fun _ => Or.inr rfl, fun _ => r0⟩
            · rw [vo (nI c) (by rw [t14]; exact fun e => ecg ((nI_eq (by omega) (by omega)).mp e).symm)]
              by_cases ecb : c = b
              · rw [ecb, b2]
                exact ⟨fun _ => Or.inl rfl, fun _ => by decide⟩
              · rw [z (nI c) (fun e => ecb ((nI_eq (by omega) (by omega)).mp e))]
                exact ⟨fun h => absurd rfl h, fun h => absurd h (by rintro (h | h); exact ecb h; exact ecg h)⟩
        obtain ⟨w1, hP, p1, p2, p3⟩ := pln_1 (w := wK) HpK eV hg hb (k6.trans t6) k7 k8 (k12.trans t12) (k13.trans t13) (by rw [e11]; exact t11) hx
        refine ⟨w1, hP, p1, fun h => ?_, fun h => ?_⟩
        · rcases p2 h with h | ⟨_, h⟩
          · rw [vb] at h
            exact absurd h (by decide)
          · rw [vg] at h
            exact absurd h r0
        · obtain ⟨h1, h2, h3⟩ := p3 h
          obtain ⟨x10, x11, xV⟩ := hx h1 h2
          have o10 := p1.2.2 10 (by decide) (by decide) (by decide) (by decide)
          have o11 := p1.2.2 11 (by decide) (by decide) (by decide) (by decide)
          have o3 := p1.2.1 3 (by decide) (by decide)
          refine ⟨0, b, 1 <<< (nI b &&& 31) ||| 1 <<< (nI g &&& 31), by omega, cf_pw_T0 (by omega) (by omega) hgb, hb, by rw [o10, x10], ?_, fun c hc => ?_, by rw [vb]; decide, fun V2 _ => ?_⟩
          · rw [h3, o3, o11, x11]
          · rw [b_or, bt_sh (by omega) (by omega), bt_sh (by omega) (by omega), Bool.or_eq_true, decide_eq_true_eq, decide_eq_true_eq]
            exact (xV c hc).symm
          · rw [h3, o3]
      · by_cases g1 : V (nI g) = 1
        · have htu0 := htu
          rw [cf_wk_h b2 g1] at htu
          generalize (fun s => cf_rd V 64 s 2) = R at htu
          have nb : w 10 14 ≠ nI b → V' (nI b) = 2 := fun h => (vo _ h).trans b2
          have ng : w 10 14 ≠ nI g → V' (nI g) = 1 := fun h => (vo _ h).trans g1
          have nz : ∀ t, V t ≠ 0 → w 10 14 ≠ t → V' t = V t := fun t _ h => vo t h
          have nxv : V (w 10 14) = 0 := by
            have := cf_wk_nx (A := w 3) (Fi := w 2) (Li := w 4) (V := V) hN hg hb Hp.2.2.1
            rw [← htu0] at this
            rcases this with h | ⟨c, _, h, hv⟩ | ⟨s, c, p, _, h, hv, _⟩
            · exact absurd h hnx
            · have h : w 10 14 = nI c := h
              rw [h]
              exact hv
            · have h : w 10 14 = nI (1000 + s) := h
              rw [h]
              exact hv
          have ext : ∀ t, V t ≠ 0 → V' t = V t := fun t ht => vo t (fun e => ht (e ▸ nxv))
          have vb : V' (nI b) = 2 := (ext _ (by rw [b2]; decide)).trans b2
          have vg : V' (nI g) = 1 := (ext _ (by rw [g1]; decide)).trans g1
          have hnx2 := cf_hv_nx (A := w 3) (N := N) (V := V) hN 16 b (1 <<< (nI b &&& 31) ||| 1 <<< (nI g &&& 31)) (w 3 b &&& (w 3 g ^^^ -1))
          have hc3 := cf_hv_c (A := w 3) (N := N) (V := V) hN 16 b (1 <<< (nI b &&& 31) ||| 1 <<< (nI g &&& 31)) (w 3 b &&& (w 3 g ^^^ -1)) hb
          have hmo := cf_hv_mono (A := w 3) (N := N) ext 16 b (1 <<< (nI b &&& 31) ||| 1 <<< (nI g &&& 31)) (w 3 b &&& (w 3 g ^^^ -1))
          have h22 := cf_hv_2 (A := w 3) (N := N) (V := V) hN 16 b (1 <<< (nI b &&& 31) ||| 1 <<< (nI g &&& 31)) (w 3 b &&& (w 3 g ^^^ -1))
          have hI2 := hIn.2
          generalize hhv : cf_hv (w 3) N V 16 b (1 <<< (nI b &&& 31) ||| 1 <<< (nI g &&& 31)) (w 3 b &&& (w 3 g ^^^ -1)) = hv at htu hnx2 hc3 hmo h22
          obtain ⟨st, nx, S, cu⟩ := hv
          by_cases hst : st = 3
          · obtain ⟨c, hc, ec, en⟩ := hc3 hst
            have ec : cu = nI c := ec
            have en : nx = -1 := en
            subst ec
            subst en
            subst hst
            have hmo := hmo rfl
            have hc14 : c < 14 := by omega
            have fin : ∀ p, p < 14 → w 2 c = nI p → w 10 6 = 3 → w 10 12 = S → w 10 13 = nI c → (V' (nI p) = 1 ∨ w 11 1 = -1) → ∃ w1, F_S_plan [.inr 10] wK = some (none, w1) ∧ (cf_Pl wK w1 N g b V' ∧ cf_InV w1 N g b V') := by
              intro p hp ep f6 f12 f13 fs
              obtain ⟨w1, hP, p1, p2, p3⟩ := pln_3 (w := wK) (g := g) (b := b) HpK eV (k6.trans f6) vb vg hc (k13.trans f13) ⟨fun p' hp' ep' => by
                rw [e2, ep] at ep'
                have : p = p' := (nI_eq (by omega) (by omega)).mp ep'
                rw [← this, e11]
                exact fs, fun h => by
                rw [e2, ep, cf_m1 (by omega)] at h
                exact h.elim⟩ (by rw [e3, hmo, k12, f12])
              exact ⟨w1, hP, p1, fun h => absurd h p2, fun h => absurd h p3⟩
            rcases Hp.2.2.1 c hc with hp | ⟨p, hp, ep⟩
            · rw [cf_tl_0 hc14 hp] at htu
              unfold cf_tup at htu
              simp only [Prod.mk.injEq] at htu
              exact absurd htu.2.1 hnx
            · have hp14 : p < 14 := by omega
              by_cases v0 : V (nI p) = 0
              · rw [cf_tl_1 hc14 hp14 ep v0] at htu
                unfold cf_tup at htu
                simp only [Prod.mk.injEq] at htu
                exact fin p hp14 ep htu.1 htu.2.2.1 htu.2.2.2.1 (Or.inr htu.2.2.2.2)
              · by_cases v1 : V (nI p) = 1
                · obtain ⟨s, hs, es⟩ := cf_chg_256 (f := w 4) (n := c) (m := p)
                  rw [cf_tl_3 hc14 hp14 ep v1 hs es] at htu
                  have e14 : w 10 14 = (if (R s).1 = -1 then -1 else 1000 + (R s).1) := congrArg (fun z => z.2.1) htu
                  have e6 : w 10 6 = (if (R s).1 = -1 then 4 else 3) := congrArg (fun z => z.1) htu
                  have e12 : w 10 12 = S := congrArg (fun z => z.2.2.1) htu
                  have e13 : w 10 13 = nI c := congrArg (fun z => z.2.2.2.1) htu
                  generalize R s = rr at e14 e6
                  by_cases hr1 : rr.1 = -1
                  · rw [if_pos hr1] at e14
                    exact absurd e14 hnx
                  · rw [if_neg hr1] at e6
                    exact fin p hp14 ep e6 e12 e13 (Or.inl ((ext _ (by rw [v1]; decide)).trans v1))
                · rw [cf_tl_2 hc14 hp14 ep v0 v1] at htu
                  unfold cf_tup at htu
                  simp only [Prod.mk.injEq] at htu
                  exact absurd htu.2.1 hnx
          · rw [cf_tl_n hst] at htu
            unfold cf_tup at htu
            simp only [Prod.mk.injEq] at htu
            obtain ⟨t6, t14, t12, t13, t11⟩ := htu
            have st2 : st = 2 := h22 (by show nx ≠ -1; rw [← t14]; exact hnx)
            subst st2
            obtain ⟨j, wo, T, hj12, hpT, hwo, i10, i12, iT, iwo, HP⟩ := hI2 t6
            obtain ⟨f, hf⟩ : ∃ f, 16 - j = f + 1 := ⟨15 - j, by omega⟩
            have HPV := HP V (fun _ _ => rfl)
            rw [hhv, hf] at HPV
            rcases cf_mid_c (A := w 3) (S := w 10 12) (T := T) (wo := wo) hN with e | ⟨c, hc, e, hel⟩
            · exfalso
              by_cases hs : w 10 12 = 1 <<< (nI wo &&& 31)
              · rw [cf_hv_a e hs] at HPV
                have h9 : (2 : Int32) = 3 := congrArg Prod.fst HPV
                exact absurd h9 (by decide)
              · rw [cf_hv_b e hs] at HPV
                have h9 : (2 : Int32) = 5 := congrArg Prod.fst HPV
                exact absurd h9 (by decide)
            · have hc14 : c < 14 := by omega
              have hel2 : bt (w 10 12) c = true ∧ bt T c = false := by
                unfold cf_el at hel
                cases hx : bt (w 10 12) c <;> cases hy : bt T c <;> rw [hx, hy] at hel <;> simp at hel
                exact ⟨rfl, rfl⟩
              have v0 : V (nI c) = 0 := by
                by_cases v0 : V (nI c) = 0
                · exact v0
                · have := (iT c hc14).mpr v0
                  rw [hel2.2] at this
                  cases this
              rw [cf_hv_c0 hc14 e v0] at HPV
              have en : nx = nI c := congrArg (fun z => z.2.1) HPV
              have w14 : w 10 14 = nI c := t14.trans en
              obtain ⟨q10, q11⟩ := eK c hc14 w14
              have vc : V' (nI c) = r := by rw [← w14]; exact vn
              have hpw : cf_pw (T ||| 1 <<< (nI c &&& 31)) = j + 3 := by rw [cf_pw_or hc14 hel2.2, hpT]
              have h14' := cf_pw_14 (T ||| 1 <<< (nI c &&& 31))
              have hsub : ∀ i, i < 32 → bt (w 3 c) i = true → bt (w 3 wo) i = true := fun i _ hi => by
                have hw3 : bt (w 3 wo) c = true := by
                  have := hel2.1
                  rw [i12, b_and, Bool.and_eq_true] at this
                  exact this.1
                exact (hA wo hwo).2.2 c hw3 i hi
              have hS' : (if r = 2 then w 10 12 &&& w 3 c else if r = 1 then w 10 12 &&& (w 3 c ^^^ -1) else w 10 12) = wK 3 (if r = 2 then c else wo) &&& (wK 10 11 ^^^ -1) := by
                rw [e3, q11, i12]
                rcases hr with rfl | rfl | rfl
                · rw [if_neg (by decide), if_pos rfl, if_neg (by decide), if_neg (by decide), if_pos rfl]
                  exact cf_s1
                · rw [if_pos rfl, if_pos rfl, if_pos rfl]
                  exact cf_s2 hsub
                · rw [if_neg (by decide), if_neg (by decide), if_neg (by decide), if_neg (by decide), if_neg (by decide)]
              have HP2 : ∀ V2 : Int32 → Int32, (∀ t, V' t ≠ 0 → V2 t = V' t) → cf_hv (w 3) N V2 16 b (1 <<< (nI b &&& 31) ||| 1 <<< (nI g &&& 31)) (w 3 b &&& (w 3 g ^^^ -1)) = cf_hv (w 3) N V2 (16 - (j + 1)) (if r = 2 then c else wo) (T ||| 1 <<< (nI c &&& 31)) (wK 3 (if r = 2 then c else wo) &&& (wK 10 11 ^^^ -1)) := by
                intro V2 hV2
                have v2c : V2 (nI c) = r := by rw [hV2 (nI c) (by rw [vc]; exact r0), vc]
                have := HP V2 (fun t ht => by
                  have h1 := ext t ht
                  rw [hV2 t (by rw [h1]; exact ht), h1])
                rw [hf, cf_hv_cs hc14 e (by rw [v2c]; exact r0), v2c, hS'] at this
                rw [this]
                congr 1
                omega
              have hT' : ∀ i, i < 14 → (bt (T ||| 1 <<< (nI c &&& 31)) i = true ↔ V' (nI i) ≠ 0) := fun i hi => by
                rw [bt_or_sh (by omega) (by omega), Bool.or_eq_true, decide_eq_true_eq]
                by_cases eic : i = c
                · rw [eic, vc]
                  exact ⟨fun _ => r0, fun _ => Or.inr rfl⟩
                · rw [vo (nI i) (by rw [w14]; exact fun e => eic ((nI_eq (by omega) (by omega)).mp e).symm), ← iT i hi]
                  exact ⟨fun h => h.elim id (fun h => absurd h eic), Or.inl⟩
              have hwoN : (if r = 2 then c else wo) < N := by
                by_cases h2 : r = 2
                · rw [if_pos h2]; exact hc
                · rw [if_neg h2]; exact hwo
              have hwoV : V' (nI (if r = 2 then c else wo)) ≠ 0 := by
                by_cases h2 : r = 2
                · rw [if_pos h2, vc]; exact r0
                · rw [if_neg h2, ext _ iwo]; exact iwo
              have hwo10 : wK 10 10 = nI (if r = 2 then c else wo) := by
                rw [q10]
                by_cases h2 : r = 2
                · rw [if_pos h2, if_pos h2]
                · rw [if_neg h2, if_neg h2]; exact i10
              obtain ⟨w1, hP, p1, p2, p3⟩ := pln_2 (w := wK) (g := g) (b := b) (j := j + 1) (T := T ||| 1 <<< (nI c &&& 31)) HpK eV (k6.trans t6) (k13.trans (by
                have : cu = -1 := congrArg (fun z => z.2.2.2) HPV
                rw [t13, this])) (by rw [e11]; exact t11) vb vg (by omega) hwoN hwo10 hT' hwoV (by
                have h9 := HP2 V' (fun _ _ => rfl)
                rw [e3] at h9 ⊢
                exact h9)
              refine ⟨w1, hP, p1, fun h => absurd h p3, fun h => ?_⟩
              have o10 := p1.2.2 10 (by decide) (by decide) (by decide) (by decide)
              have o11 := p1.2.2 11 (by decide) (by decide) (by decide) (by decide)
              have o3 := p1.2.1 3 (by decide) (by decide)
              refine ⟨j + 1, if r = 2 then c else wo, T ||| 1 <<< (nI c &&& 31), by omega, by rw [hpw], hwoN, by rw [o10]; exact hwo10, by rw [p2 h, o3, o11], hT', hwoV, fun V2 hV2 => ?_⟩
              rw [o3, p2 h, e3]
              have := HP2 V2 hV2
              rw [e3] at this
              exact this
        · rw [cf_wk_g6 b2 g0 g1] at htu
          unfold cf_tup at htu
          simp only [Prod.mk.injEq] at htu
          exact absurd htu.2.1 hnx
    · rw [cf_wk_b6 b0 b2] at htu
      unfold cf_tup at htu
      simp only [Prod.mk.injEq] at htu
      exact absurd htu.2.1 hnx
