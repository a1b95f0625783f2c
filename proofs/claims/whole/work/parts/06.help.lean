theorem cf_mem {w : Cond} (i : Nat) (h : lw_tbl[i]? = some w) : w ∈ lw_tbl := List.mem_of_getElem? h
theorem cf_S_node {l : Launch} {R : Room} {cc : ByteArray} {nL : Nat} {own : String} {pc : Nat} {b : Bool} {f g : cf_Rw} (hf : cf_S l R cc nL own pc f) (hg : cf_S l R cc nL own pc g) : cf_S l R cc nL own pc (bif b then f else g) := by
  cases b
  · exact hg
  · exact hf
theorem cf_S_leaf {l : Launch} {R : Room} {cc : ByteArray} {nL : Nat} {own : String} {pc K : Nat} {f : cf_Rw} (hf : cf_S l R cc nL own K f) : cf_S l R cc nL own pc (bif Nat.beq pc K then f else cf_stuck) := by
  cases hb : Nat.beq pc K with
  | false => exact cf_S_stuck
  | true =>
    have e : pc = K := Nat.eq_of_beq_eq_true hb
    subst e
    exact hf
theorem cf_nonneg {z : Int32} (h : 0 ≤ z.toInt) : ¬ z < 0 := by
  intro hz
  have := Int32.lt_iff_toInt_lt.mp hz
  have h0 : (0 : Int32).toInt = 0 := by decide
  omega
theorem cf_S_cpy {l : Launch} {R : Room} {cc : ByteArray} {nL : Nat} {own : String} {pc idx : Nat} (hlink : Cond.methodLink own idx arraycopyName ∈ lw_tbl) (hnat : Cond.native arraycopyName ∈ lw_tbl) (hsta : Cond.static arraycopyName ∈ lw_tbl) (hini : Cond.initialized "java/lang/System" ∈ lw_tbl)
    (hR : 1 ≤ R.frames ∧ 8 + (nativeFrameWords "java/lang/System" "arraycopy" 5 + 11) ≤ R.locals) (hd : decode cc pc = .ok (.invokestatic idx, 3)) : cf_S l R cc nL own pc (cf_cpy (pc + 3)) := by
  intro Z hC L st w
  obtain ⟨p, e, s, m, args, below, meth, c, cells, slots, Q, D, cA, ad, A⟩ := Z
  obtain ⟨hx, hb, hml, hown, hB, hK, hD, hc1, hc2⟩ := hC
  refine ⟨fun b h k => ?_, fun q h => ?_⟩
  · unfold cf_cpy at h
    split at h
    · rename_i n dp k1 sp k0 r
      split at h
      · rename_i N N0 hs1 hs0
        cases hg : (decide (0 ≤ n.toInt) && decide (0 ≤ dp.toInt) && decide (0 ≤ sp.toInt) && decide (sp.toInt + n.toInt ≤ (N0 : Int)) && decide (dp.toInt + n.toInt ≤ (N : Int)) && Nat.ble r.length 8 && Nat.blt k1 26 && Nat.blt k0 26) with
        | false => rw [hg] at h; exact nomatch h
        | true =>
          rw [hg] at h
          obtain rfl := Sum.inl.inj (Option.some.inj h)
          simp only [Bool.and_eq_true, decide_eq_true_eq] at hg
          obtain ⟨⟨⟨⟨⟨⟨⟨g1, g2⟩, g3⟩, g4⟩, g5⟩, g6⟩, g7⟩, g8⟩ := hg
          have g6 : r.length ≤ 8 := Nat.le_of_ble_eq_true g6
          intro H locs ls hL hP hS
          have hb1 : k1 < 26 ∧ k0 < 26 := ⟨by simpa using g7, by simpa using g8⟩
          have hat1 : (cf_ws cA ad w)[k1]? = some (ad k1, .inl (cA, N, .inl (w k1))) := by rw [cf_ws_at, if_pos hb1.1, cf_cel_a hs1]
          have hat0 : (cf_ws cA ad w)[k0]? = some (ad k0, .inl (cA, N0, .inl (w k0))) := by rw [cf_ws_at, if_pos hb1.2, cf_cel_a hs0]
          refine va_copyi hx hb (hml.trans hL.1.symm) hown (hB.use hlink rfl args) (hB.use hnat rfl args) (hB.use hsta rfl args) (hB.use hini rfl args) hK hP (hD.va cA w) hS k0 k1 0 0 hat0 hat1 rfl rfl rfl (cf_nonneg g3) (cf_nonneg g2) (cf_nonneg g1) ?_ ?_ (fun _ _ => rfl) hR.1 ?_ hd (fun H1 locs1 hP1 hD1 hS1 => k H1 locs1 ls hL (by rw [cf_set_a _ hs1] at hP1; exact hP1) hS1)
          · show sp.toInt.toNat + n.toInt.toNat ≤ N0
            omega
          · show dp.toInt.toNat + n.toInt.toNat ≤ N
            omega
          · rw [cf_sum]
            omega
      · cases h
    · cases h
  · unfold cf_cpy at h
    split at h
    · rename_i n dp k1 sp k0 r
      split at h
      · rename_i N N0 hs1 hs0
        cases hg : (decide (0 ≤ n.toInt) && decide (0 ≤ dp.toInt) && decide (0 ≤ sp.toInt) && decide (sp.toInt + n.toInt ≤ (N0 : Int)) && decide (dp.toInt + n.toInt ≤ (N : Int)) && Nat.ble r.length 8 && Nat.blt k1 26 && Nat.blt k0 26) <;> rw [hg] at h <;> cases h
      · cases h
    · cases h
/-! Math.min, Math.max: by the library's contracts -/
def cf_mmn (nx : Nat) : cf_Rw := fun L st w => match st with
  | .inl y :: .inl x :: r => bif Nat.ble r.length 8 then some (.inl (nx, L, .inl (if y < x then y else x) :: r, w)) else none
  | _ => none
def cf_mmx (nx : Nat) : cf_Rw := fun L st w => match st with
  | .inl y :: .inl x :: r => bif Nat.ble r.length 8 then some (.inl (nx, L, .inl (if x < y then y else x) :: r, w)) else none
  | _ => none
theorem cf_S_mmn {l : Launch} {R : Room} {cc : ByteArray} {nL : Nat} {own : String} {pc idx : Nat} (hlink : Cond.methodLink own idx Lib.Math.min.name ∈ lw_tbl) (hcode : Cond.code Lib.Math.min.name Lib.Math.min.code 2 (some .int) ∈ lw_tbl) (hsta : Cond.static Lib.Math.min.name ∈ lw_tbl) (hini : Cond.initialized "java/lang/Math" ∈ lw_tbl) (hR : 1 ≤ R.frames ∧ 8 + 13 ≤ R.locals) (hd : decode cc pc = .ok (.invokestatic idx, 3)) : cf_S l R cc nL own pc (cf_mmn (pc + 3)) := by
  intro Z hC L st w
  obtain ⟨p, e, s, m, args, below, meth, c, cells, slots, Q, D, cA, ad, A⟩ := Z
  obtain ⟨hx, hb, hml, hown, hB, hK, hD, hc1, hc2⟩ := hC
  refine ⟨fun b h k => ?_, fun q h => ?_⟩
  · unfold cf_mmn at h
    split at h
    · rename_i y x r
      cases hg : Nat.ble r.length 8 with
      | false => rw [hg] at h; exact nomatch h
      | true =>
        rw [hg] at h
        obtain rfl := Sum.inl.inj (Option.some.inj h)
        have g6 : r.length ≤ 8 := Nat.le_of_ble_eq_true hg
        intro H locs ls hL hP hS
        exact va_mmin hx hb (hml.trans hL.1.symm) hown (hB.use hlink rfl args) (hB.use hsta rfl args) (hB.use hini rfl args) (hB.use hcode rfl args) hR.1 (by rw [cf_sum]; omega) hc1 hc2 hd (k H locs ls hL hP hS)
    · cases h
  · unfold cf_mmn at h
    split at h
    · rename_i y x r
      cases hg : Nat.ble r.length 8 <;> rw [hg] at h <;> cases h
    · cases h
theorem cf_S_mmx {l : Launch} {R : Room} {cc : ByteArray} {nL : Nat} {own : String} {pc idx : Nat} (hlink : Cond.methodLink own idx Lib.Math.max.name ∈ lw_tbl) (hcode : Cond.code Lib.Math.max.name Lib.Math.max.code 2 (some .int) ∈ lw_tbl) (hsta : Cond.static Lib.Math.max.name ∈ lw_tbl) (hini : Cond.initialized "java/lang/Math" ∈ lw_tbl) (hR : 1 ≤ R.frames ∧ 8 + 13 ≤ R.locals) (hd : decode cc pc = .ok (.invokestatic idx, 3)) : cf_S l R cc nL own pc (cf_mmx (pc + 3)) := by
  intro Z hC L st w
  obtain ⟨p, e, s, m, args, below, meth, c, cells, slots, Q, D, cA, ad, A⟩ := Z
  obtain ⟨hx, hb, hml, hown, hB, hK, hD, hc1, hc2⟩ := hC
  refine ⟨fun b h k => ?_, fun q h => ?_⟩
  · unfold cf_mmx at h
    split at h
    · rename_i y x r
      cases hg : Nat.ble r.length 8 with
      | false => rw [hg] at h; exact nomatch h
      | true =>
        rw [hg] at h
        obtain rfl := Sum.inl.inj (Option.some.inj h)
        have g6 : r.length ≤ 8 := Nat.le_of_ble_eq_true hg
        intro H locs ls hL hP hS
        exact va_mmax hx hb (hml.trans hL.1.symm) hown (hB.use hlink rfl args) (hB.use hsta rfl args) (hB.use hini rfl args) (hB.use hcode rfl args) hR.1 (by rw [cf_sum]; omega) hc1 hc2 hd (k H locs ls hL hP hS)
    · cases h
  · unfold cf_mmx at h
    split at h
    · rename_i y x r
      cases hg : Nat.ble r.length 8 <;> rw [hg] at h <;> cases h
    · cases h
theorem cf_la0 : ∀ w ∈ u_ws "CulpritFinder$History" cf_T0 5, w ∈ lw_tbl ∧ cf_g w = true := by
  have h : u_ws "CulpritFinder$History" cf_T0 5 = [67, 69, 71, 73, 75].filterMap (fun i => lw_tbl[i]?) := by decide +kernel
  have h2 : (u_ws "CulpritFinder$History" cf_T0 5).all cf_g = true := by decide +kernel
  intro w hw
  refine ⟨?_, List.all_eq_true.mp h2 w hw⟩
  rw [h] at hw
  obtain ⟨i, -, hi⟩ := List.mem_filterMap.mp hw
  exact List.mem_of_getElem? hi
theorem cf_la1 : ∀ w ∈ u_ws "CulpritFinder$Machine" cf_T1 4, w ∈ lw_tbl ∧ cf_g w = true := by
  have h : u_ws "CulpritFinder$Machine" cf_T1 4 = [89, 91, 93, 95].filterMap (fun i => lw_tbl[i]?) := by decide +kernel
  have h2 : (u_ws "CulpritFinder$Machine" cf_T1 4).all cf_g = true := by decide +kernel
  intro w hw
  refine ⟨?_, List.all_eq_true.mp h2 w hw⟩
  rw [h] at hw
  obtain ⟨i, -, hi⟩ := List.mem_filterMap.mp hw
  exact List.mem_of_getElem? hi
theorem cf_la2 : ∀ w ∈ u_ws "CulpritFinder$Reduction" cf_T2 3, w ∈ lw_tbl ∧ cf_g w = true := by
  have h : u_ws "CulpritFinder$Reduction" cf_T2 3 = [114, 116, 118].filterMap (fun i => lw_tbl[i]?) := by decide +kernel
  have h2 : (u_ws "CulpritFinder$Reduction" cf_T2 3).all cf_g = true := by decide +kernel
  intro w hw
  refine ⟨?_, List.all_eq_true.mp h2 w hw⟩
  rw [h] at hw
  obtain ⟨i, -, hi⟩ := List.mem_filterMap.mp hw
  exact List.mem_of_getElem? hi
theorem cf_la3 : ∀ w ∈ u_ws "CulpritFinder$Search" cf_T3 17, w ∈ lw_tbl ∧ cf_g w = true := by
  have h : u_ws "CulpritFinder$Search" cf_T3 17 = [146, 148, 150, 152, 154, 156, 158, 160, 162, 164, 166, 168, 170, 172, 174, 176, 178].filterMap (fun i => lw_tbl[i]?) := by decide +kernel
  have h2 : (u_ws "CulpritFinder$Search" cf_T3 17).all cf_g = true := by decide +kernel
  intro w hw
  refine ⟨?_, List.all_eq_true.mp h2 w hw⟩
  rw [h] at hw
  obtain ⟨i, -, hi⟩ := List.mem_filterMap.mp hw
  exact List.mem_of_getElem? hi
theorem cf_la4 : ∀ w ∈ u_ws "CulpritFinder" cf_T4 3, w ∈ lw_tbl ∧ cf_g w = true := by
  have h : u_ws "CulpritFinder" cf_T4 3 = [184, 186, 188].filterMap (fun i => lw_tbl[i]?) := by decide +kernel
  have h2 : (u_ws "CulpritFinder" cf_T4 3).all cf_g = true := by decide +kernel
  intro w hw
  refine ⟨?_, List.all_eq_true.mp h2 w hw⟩
  rw [h] at hw
  obtain ⟨i, -, hi⟩ := List.mem_filterMap.mp hw
  exact List.mem_of_getElem? hi
theorem cf_la5 : ∀ w ∈ u_ws "CulpritFinderModel" cf_T5 24, w ∈ lw_tbl ∧ cf_g w = true := by
  have h : u_ws "CulpritFinderModel" cf_T5 24 = [485, 487, 489, 491, 493, 495, 497, 499, 501, 503, 505, 507, 509, 511, 513, 515, 517, 519, 521, 523, 525, 527, 529, 531].filterMap (fun i => lw_tbl[i]?) := by decide +kernel
  have h2 : (u_ws "CulpritFinderModel" cf_T5 24).all cf_g = true := by decide +kernel
  intro w hw
  refine ⟨?_, List.all_eq_true.mp h2 w hw⟩
  rw [h] at hw
  obtain ⟨i, -, hi⟩ := List.mem_filterMap.mp hw
  exact List.mem_of_getElem? hi
