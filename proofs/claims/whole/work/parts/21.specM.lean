/-! Machine: what a program is (p : the 8 codes) -/
def cf_op (c : Int32) : Int32 := c / 100
def cf_lf (c : Int32) : Int32 := c / 10 - c / 10 / 10 * 10
def cf_rt (c : Int32) : Int32 := c - c / 10 * 10
theorem sp_M_operation {c : Int32} {w : cf_Wd} : F_M_operation [.inl c] w = some (some (.inl (cf_op c)), w) := by
  refine cf_is (e_M_operation ?_)
  simp only [r_M_operation_0, r_M_operation_1, r_M_operation_3, r_M_operation_4, cf_n100, true_and]
  exact ⟨rfl, trivial⟩
theorem sp_M_left {c : Int32} {w : cf_Wd} : F_M_left [.inl c] w = some (some (.inl (cf_lf c)), w) := by
  refine cf_is (e_M_left ?_)
  simp only [r_M_left_0, r_M_left_1, r_M_left_3, r_M_left_4, r_M_left_6, r_M_left_7, cf_n10, true_and]
  exact ⟨rfl, trivial⟩
theorem sp_M_right {c : Int32} {w : cf_Wd} : F_M_right [.inl c] w = some (some (.inl (cf_rt c)), w) := by
  refine cf_is (e_M_right ?_)
  simp only [r_M_right_0, r_M_right_1, r_M_right_3, r_M_right_4, cf_n10, true_and]
  exact ⟨rfl, trivial⟩
/-- a code: 0 to 999; its parts -/
def cf_cd (c : Int32) : Prop := ∃ n, n < 1000 ∧ c = nI n
theorem cf_op_n : ∀ a, a < 10 → ∀ b, b < 100 → cf_op (nI (100 * a + b)) = nI a ∧ cf_lf (nI (100 * a + b)) = nI (b / 10) ∧ cf_rt (nI (100 * a + b)) = nI (b % 10) := by decide +kernel
theorem cf_cd_p {c : Int32} (h : cf_cd c) : ∃ o l r, o < 10 ∧ l < 10 ∧ r < 10 ∧ cf_op c = nI o ∧ cf_lf c = nI l ∧ cf_rt c = nI r := by
  obtain ⟨n, hn, rfl⟩ := h
  have h := cf_op_n (n / 100) (by omega) (n % 100) (by omega)
  have e : 100 * (n / 100) + n % 100 = n := by omega
  rw [e] at h
  exact ⟨n / 100, n % 100 / 10, n % 100 % 10, by omega, by omega, by omega, h.1, h.2.1, h.2.2⟩
/-- the numbers of the program n, with the lines of the set m put in -/
def cf_ld (w : cf_Wd) (n : Nat) (m : Int32) (k : Nat) : Nat → Int32 := fun j => if j < k ∧ cf_bit m (nI j) = true then w 4 (8 * n + j) else w 6 j
theorem cf_ld_t {w : cf_Wd} {n : Nat} {m : Int32} {k : Nat} (h : cf_bit m (nI k) = true) : upd (cf_ld w n m k) k (w 4 (8 * n + k)) = cf_ld w n m (k + 1) := by
  funext j
  unfold upd cf_ld
  by_cases e : j = k
  · subst e
    simp [h]
  · have e2 : (j < k + 1) ↔ j < k := by omega
    simp [e, e2]
theorem cf_ld_f {w : cf_Wd} {n : Nat} {m : Int32} {k : Nat} (h : cf_bit m (nI k) = false) : cf_ld w n m k = cf_ld w n m (k + 1) := by
  funext j
  unfold cf_ld
  by_cases e : j = k
  · subst e
    simp [h]
  · have e2 : (j < k + 1) ↔ j < k := by omega
    simp [e2]
theorem lp_M_loadLines {n : Nat} (hn : n < 14) {m : Int32} {w : cf_Wd} : ∀ d k, k + d = 8 → cf_wp T_M_loadLines (3, [some (.inr 5), some (.inr 1), some (.inl (nI n)), some (.inl m), some (.inl (nI k))], [], cf_wa w 6 (cf_ld w n m k)) (cf_qv (fun w1 => w1 = cf_wa w 6 (cf_ld w n m 8))) := by
  intro d
  induction d with
  | zero =>
    intro k hk
    have e : k = 8 := by omega
    subst e
    refine r_M_loadLines_3.mpr ?_
    simp only [r_M_loadLines_0, r_M_loadLines_1, r_M_loadLines_5, r_M_loadLines_7, r_M_loadLines_10, r_M_loadLines_11, r_M_loadLines_13, r_M_loadLines_14, r_M_loadLines_15, r_M_loadLines_16, r_M_loadLines_19, r_M_loadLines_20, r_M_loadLines_23, r_M_loadLines_25, r_M_loadLines_26, r_M_loadLines_27, r_M_loadLines_29, r_M_loadLines_32, r_M_loadLines_33, r_M_loadLines_36, r_M_loadLines_39, cf_ge88, ↓reduceIte]
  | succ d ih =>
    intro k hk
    have h8 : k < 8 := by omega
    have ih1 := ih (k + 1) (by omega)
    refine r_M_loadLines_3.mpr ?_
    simp only [r_M_loadLines_0, r_M_loadLines_1, r_M_loadLines_5, r_M_loadLines_7, r_M_loadLines_10, r_M_loadLines_11, r_M_loadLines_13, r_M_loadLines_14, r_M_loadLines_15, r_M_loadLines_16, r_M_loadLines_19, r_M_loadLines_20, r_M_loadLines_23, r_M_loadLines_25, r_M_loadLines_26, r_M_loadLines_27, c_M_loadLines_29 (sp_H_codeAt (show 8 * n + k < 112 by omega)), r_M_loadLines_32, r_M_loadLines_33, r_M_loadLines_36, r_M_loadLines_39, cf_ge8 h8, ↓reduceIte, nI_1, cf_in_nI h8 (by decide), true_and, nI_clamp (show k < 2 ^ 31 by omega), cf_wa_wa, cf_wa_s, cf_wa_n, pk_us, pk_un, ne_eq, Nat.reduceEqDiff, not_false_eq_true, reduceCtorEq]
    by_cases h : m >>> (nI k &&& 31) &&& 1 = 0
    · rw [if_pos h, cf_ld_f (cf_bit_f h)]
      exact ih1
    · rw [if_neg h, cf_ld_t (cf_bit_t h)]
      exact ih1
theorem cf_ld_0 {w : cf_Wd} {n : Nat} {m : Int32} : cf_ld w n m 0 = w 6 := by
  funext j
  simp [cf_ld]
theorem sp_M_loadLines {n : Nat} (hn : n < 14) {m : Int32} {w : cf_Wd} : F_M_loadLines [.inr 5, .inr 1, .inl (nI n), .inl m] w = some (none, cf_wa w 6 (cf_ld w n m 8)) := by
  refine cf_isv (e_M_loadLines ?_)
  simp only [r_M_loadLines_0, r_M_loadLines_1]
  have h := lp_M_loadLines hn (m := m) (w := w) 8 0 (by omega)
  rw [cf_ld_0, cf_wa_id rfl] at h
  exact h
theorem sp_M_load {n : Nat} (hn : n < 14) {w : cf_Wd} : F_M_load [.inr 5, .inr 1, .inl (nI n)] w = some (none, cf_wa w 6 (cf_ld w n 255 8)) := by
  refine cf_isv (e_M_load ?_)
  simp only [r_M_load_0, r_M_load_1, r_M_load_2, r_M_load_3, c_M_load_6 (sp_M_loadLines hn), r_M_load_9]
/-! buildable: operations -/
def cf_ho (p : Nat → Int32) : Prop := ∀ j, j < 8 → cf_op (p j) ≠ 9
theorem lp_M_hasOperations {w : cf_Wd} : ∀ d k, k + d = 8 → (∀ j, j < k → cf_op (w 6 j) ≠ 9) → cf_wp T_M_hasOperations (2, [some (.inr 5), some (.inl (nI k))], [], w) (cf_qb (fun x w1 => ((x = 1 ∧ cf_ho (w 6)) ∨ (x = 0 ∧ ¬ cf_ho (w 6))) ∧ w1 = w)) := by
  intro d
  induction d with
  | zero =>
    intro k hk hj
    have e : k = 8 := by omega
    subst e
    refine r_M_hasOperations_2.mpr ?_
    simp only [r_M_hasOperations_0, r_M_hasOperations_1, r_M_hasOperations_3, r_M_hasOperations_5, r_M_hasOperations_8, r_M_hasOperations_9, r_M_hasOperations_12, r_M_hasOperations_13, c_M_hasOperations_14 sp_M_operation, r_M_hasOperations_17, r_M_hasOperations_19, r_M_hasOperations_22, r_M_hasOperations_23, r_M_hasOperations_24, r_M_hasOperations_27, r_M_hasOperations_30, r_M_hasOperations_31, cf_ge88, ↓reduceIte]
    have hh : cf_ho (w 6) := hj
    simp [hh]
  | succ d ih =>
    intro k hk hj
    have h8 : k < 8 := by omega
    refine r_M_hasOperations_2.mpr ?_
    simp only [r_M_hasOperations_0, r_M_hasOperations_1, r_M_hasOperations_3, r_M_hasOperations_5, r_M_hasOperations_8, r_M_hasOperations_9, r_M_hasOperations_12, r_M_hasOperations_13, c_M_hasOperations_14 sp_M_operation, r_M_hasOperations_17, r_M_hasOperations_19, r_M_hasOperations_22, r_M_hasOperations_23, r_M_hasOperations_24, r_M_hasOperations_27, r_M_hasOperations_30, r_M_hasOperations_31, cf_ge8 h8, ↓reduceIte, nI_1, cf_in_nI h8 (by decide), true_and, nI_clamp (show k < 2 ^ 31 by omega)]
    by_cases h : cf_op (w 6 k) = 9
    · rw [if_neg (fun x => x h)]
      have hh : ¬ cf_ho (w 6) := fun x => x k h8 h
      simp [hh]
    · rw [if_pos h]
      refine ih (k + 1) (by omega) (fun j hj2 => ?_)
      by_cases e : j = k
      · subst e
        exact h
      · exact hj j (by omega)
theorem sp_M_hasOperations {w : cf_Wd} : ∃ x w1, F_M_hasOperations [.inr 5] w = some (some (.inl x), w1) ∧ (((x = 1 ∧ cf_ho (w 6)) ∨ (x = 0 ∧ ¬ cf_ho (w 6))) ∧ w1 = w) := by
  refine e_M_hasOperations ?_
  simp only [r_M_hasOperations_0, r_M_hasOperations_1]
  exact lp_M_hasOperations 8 0 (by omega) (fun j hj => absurd hj (Nat.not_lt_zero j))
/-! buildable: blocks. cf_pp p k: the lines open behind k lines, innermost first, and the partners -/
def cf_pp (p : Nat → Int32) : Nat → Option (List Nat × (Nat → Int32))
  | 0 => some ([], fun _ => -1)
  | k + 1 => match cf_pp p k with
    | none => none
    | some (s, q) => if cf_op (p k) = 4 ∨ cf_op (p k) = 5 then some (k :: s, q) else if cf_op (p k) = 6 then (match s with
      | [] => none
      | i :: s' => some (s', upd (upd q k (nI i)) i (nI k))) else some (s, q)
def cf_pk (c : Int32) : Prop := cf_op c = 4 ∨ cf_op c = 5 ∨ cf_op c = 6
/-- stack cells and partners as the pure ones have them, behind k lines -/
def cf_pI (p : Nat → Int32) (k : Nat) (s : List Nat) (q a st : Nat → Int32) : Prop :=
  (∀ i x, s[i]? = some x → st (s.length - 1 - i) = nI x) ∧ (∀ x, x ∈ s → x < k) ∧ s.length ≤ k ∧ (∀ j, j < k → cf_pk (p j) → j ∉ s → a j = q j ∧ ∃ i, i < 8 ∧ q j = nI i)
theorem cf_pI_push {p : Nat → Int32} {k : Nat} {s : List Nat} {q a st : Nat → Int32} (hk : k < 8) (h : cf_pI p k s q a st) : cf_pI p (k + 1) (k :: s) q a (upd st s.length (nI k)) := by
  obtain ⟨h1, h2, h3, h4⟩ := h
  refine ⟨fun i x hx => ?_, fun x hx => ?_, by simp; omega, fun j hj hp hs => ?_⟩
  · cases i with
    | zero =>
      have e : k = x := by simpa using hx
      subst e
      simp [upd]
    | succ i =>
      have hx' : s[i]? = some x := by simpa using hx
      have hl : i < s.length := by
        by_cases hl : i < s.length
        · exact hl
        · rw [List.getElem?_eq_none (by omega)] at hx'; cases hx'
      have e := h1 i x hx'
      have e2 : (k :: s).length - 1 - (i + 1) = s.length - 1 - i := by simp; omega
      rw [e2, pk_un (by omega)]
      exact e
  · rcases List.mem_cons.mp hx with rfl | hx
    · omega
    · have := h2 x hx; omega
  · have hjk : j ≠ k := fun e => hs (e ▸ List.mem_cons_self)
    exact h4 j (by omega) hp (fun hm => hs (List.mem_cons_of_mem _ hm))
theorem cf_pI_pop {p : Nat → Int32} {k i : Nat} {s : List Nat} {q a st : Nat → Int32} (hk : k < 8) (h : cf_pI p k (i :: s) q a st) : cf_pI p (k + 1) s (upd (upd q k (nI i)) i (nI k)) (upd (upd a k (nI i)) i (nI k)) st := by
  obtain ⟨h1, h2, h3, h4⟩ := h
  have hi : i < k := h2 i List.mem_cons_self
  refine ⟨fun j x hx => ?_, fun x hx => ?_, ?_, fun j hj hp hs => ?_⟩
  · have e := h1 (j + 1) x (by simpa using hx)
    have e2 : (i :: s).length - 1 - (j + 1) = s.length - 1 - j := by simp; omega
    rw [e2] at e
    exact e
  · have := h2 x (List.mem_cons_of_mem _ hx); omega
  · have : (i :: s).length ≤ k := h3
    simp at this; omega
  · by_cases e1 : j = i
    · subst e1
      rw [pk_us, pk_us]
      exact ⟨rfl, k, hk, rfl⟩
    · rw [pk_un e1, pk_un e1]
      by_cases e2 : j = k
      · subst e2
        rw [pk_us, pk_us]
        exact ⟨rfl, i, by omega, rfl⟩
      · rw [pk_un e2, pk_un e2]
        exact h4 j (by omega) hp (fun hm => by
          rcases List.mem_cons.mp hm with hm | hm
          · exact e1 hm
          · exact hs hm)
theorem cf_pI_skip {p : Nat → Int32} {k : Nat} {s : List Nat} {q a st : Nat → Int32} (hp : ¬ cf_pk (p k)) (h : cf_pI p k s q a st) : cf_pI p (k + 1) s q a st := by
  obtain ⟨h1, h2, h3, h4⟩ := h
  refine ⟨h1, fun x hx => ?_, by omega, fun j hj hpj hs => ?_⟩
  · have := h2 x hx; omega
  · by_cases e : j = k
    · subst e
      exact absurd hpj hp
    · exact h4 j (by omega) hpj hs
/-- the pairing comes out: no line stays open -/
def cf_pO (p : Nat → Int32) (q : Nat → Int32) : Prop := cf_pp p 8 = some ([], q)
theorem cf_pp_4 {p : Nat → Int32} {k : Nat} {s : List Nat} {q : Nat → Int32} (h : cf_pp p k = some (s, q)) (h4 : cf_op (p k) = 4 ∨ cf_op (p k) = 5) : cf_pp p (k + 1) = some (k :: s, q) := by
  simp only [cf_pp, h, if_pos h4]
theorem cf_pp_6 {p : Nat → Int32} {k i : Nat} {s : List Nat} {q : Nat → Int32} (h : cf_pp p k = some (i :: s, q)) (h6 : cf_op (p k) = 6) : cf_pp p (k + 1) = some (s, upd (upd q k (nI i)) i (nI k)) := by
  have h4 : ¬ (cf_op (p k) = 4 ∨ cf_op (p k) = 5) := by
    rw [h6]; decide
  simp only [cf_pp, h, if_neg h4, if_pos h6]
theorem cf_pp_60 {p : Nat → Int32} {k : Nat} {q : Nat → Int32} (h : cf_pp p k = some ([], q)) (h6 : cf_op (p k) = 6) : cf_pp p (k + 1) = none := by
  have h4 : ¬ (cf_op (p k) = 4 ∨ cf_op (p k) = 5) := by
    rw [h6]; decide
  simp only [cf_pp, h, if_neg h4, if_pos h6]
theorem cf_pp_s {p : Nat → Int32} {k : Nat} {s : List Nat} {q : Nat → Int32} (h : cf_pp p k = some (s, q)) (hp : ¬ cf_pk (p k)) : cf_pp p (k + 1) = some (s, q) := by
  have h4 : ¬ (cf_op (p k) = 4 ∨ cf_op (p k) = 5) := fun x => hp (by rcases x with x | x; exact Or.inl x; exact Or.inr (Or.inl x))
  have h6 : ¬ cf_op (p k) = 6 := fun x => hp (Or.inr (Or.inr x))
  simp only [cf_pp, h, if_neg h4, if_neg h6]
theorem cf_pp_n {p : Nat → Int32} {k : Nat} (h : cf_pp p k = none) : ∀ d, cf_pp p (k + d) = none := by
  intro d
  induction d with
  | zero => exact h
  | succ d ih =>
    show cf_pp p (k + d + 1) = none
    simp only [cf_pp, ih]
theorem cf_ne0 {n : Nat} (h : n < 2 ^ 31) : (nI n = 0) ↔ n = 0 := by
  have e : (0 : Int32) = nI 0 := by decide +kernel
  rw [e]
  exact nI_eq h (by decide)
theorem cf_sub1 (n : Nat) : nI (n + 1) + -1 = nI n := by
  have e : ∀ x : Int32, x + -1 = x - 1 := by intro x; rw [Int32.sub_eq_add_neg]
  rw [e]
  exact nI_pred n
theorem lp_M_pairsBlocks {w : cf_Wd} : ∀ d k s q a st, k + d = 8 → cf_pp (w 6) k = some (s, q) → cf_pI (w 6) k s q a st → ∀ l3, cf_wp T_M_pairsBlocks (4, [some (.inr 5), some (.inl (nI s.length)), some (.inl (nI k)), l3], [], cf_wa (cf_wa w 8 st) 7 a) (cf_qb (fun x w1 => (∃ a' st', w1 = cf_wa (cf_wa w 8 st') 7 a' ∧ ((x = 1 ∧ ∃ q, cf_pO (w 6) q ∧ cf_pI (w 6) 8 [] q a' st') ∨ (x = 0 ∧ ¬ ∃ q, cf_pO (w 6) q))))) := by
  intro d
  induction d with
  | zero =>
    intro k s q a st hk hp hI l3
    have e : k = 8 := by omega
    subst e
    have hl : s.length < 2 ^ 31 := by have := hI.2.2.1; omega
    refine r_M_pairsBlocks_4.mpr ?_
    simp only [r_M_pairsBlocks_0, r_M_pairsBlocks_1, r_M_pairsBlocks_2, r_M_pairsBlocks_3, r_M_pairsBlocks_5, r_M_pairsBlocks_7, r_M_pairsBlocks_10, r_M_pairsBlocks_11, r_M_pairsBlocks_14, r_M_pairsBlocks_15, c_M_pairsBlocks_16 sp_M_operation, r_M_pairsBlocks_19, r_M_pairsBlocks_20, r_M_pairsBlocks_21, r_M_pairsBlocks_22, r_M_pairsBlocks_25, r_M_pairsBlocks_26, r_M_pairsBlocks_27, r_M_pairsBlocks_30, r_M_pairsBlocks_31, r_M_pairsBlocks_34, r_M_pairsBlocks_35, r_M_pairsBlocks_36, r_M_pairsBlocks_37, r_M_pairsBlocks_40, r_M_pairsBlocks_43, r_M_pairsBlocks_44, r_M_pairsBlocks_46, r_M_pairsBlocks_49, r_M_pairsBlocks_50, r_M_pairsBlocks_53, r_M_pairsBlocks_54, r_M_pairsBlocks_55, r_M_pairsBlocks_58, r_M_pairsBlocks_59, r_M_pairsBlocks_62, r_M_pairsBlocks_63, r_M_pairsBlocks_64, r_M_pairsBlocks_67, r_M_pairsBlocks_68, r_M_pairsBlocks_69, r_M_pairsBlocks_70, r_M_pairsBlocks_71, r_M_pairsBlocks_74, r_M_pairsBlocks_75, r_M_pairsBlocks_78, r_M_pairsBlocks_79, r_M_pairsBlocks_80, r_M_pairsBlocks_81, r_M_pairsBlocks_82, r_M_pairsBlocks_85, r_M_pairsBlocks_88, r_M_pairsBlocks_89, r_M_pairsBlocks_92, r_M_pairsBlocks_93, r_M_pairsBlocks_96, r_M_pairsBlocks_97, cf_ge88, ↓reduceIte, cf_ne0 hl]
    by_cases h0 : s.length = 0
    · have e : s = [] := List.eq_nil_of_length_eq_zero h0
      subst e
      rw [if_neg (fun x => x h0)]
      exact ⟨by simp, a, st, rfl, Or.inl ⟨by simp, q, hp, hI⟩⟩
    · rw [if_pos h0]
      refine ⟨by simp, a, st, rfl, Or.inr ⟨by simp, fun ⟨q2, hq⟩ => ?_⟩⟩
      have hq : cf_pp (w 6) 8 = some ([], q2) := hq
      rw [hp] at hq
      have e := congrArg Prod.fst (Option.some.inj hq)
      have e : s = [] := e
      rw [e] at h0
      exact h0 rfl
  | succ d ih =>
    intro k s q a st hk hp hI l3
    have h8 : k < 8 := by omega
    have hl : s.length < 2 ^ 31 := by have := hI.2.2.1; omega
    have hl8 : s.length < 8 := by have := hI.2.2.1; omega
    refine r_M_pairsBlocks_4.mpr ?_
    simp only [r_M_pairsBlocks_0, r_M_pairsBlocks_1, r_M_pairsBlocks_2, r_M_pairsBlocks_3, r_M_pairsBlocks_5, r_M_pairsBlocks_7, r_M_pairsBlocks_10, r_M_pairsBlocks_11, r_M_pairsBlocks_14, r_M_pairsBlocks_15, c_M_pairsBlocks_16 sp_M_operation, r_M_pairsBlocks_19, r_M_pairsBlocks_20, r_M_pairsBlocks_21, r_M_pairsBlocks_22, r_M_pairsBlocks_25, r_M_pairsBlocks_26, r_M_pairsBlocks_27, r_M_pairsBlocks_30, r_M_pairsBlocks_31, r_M_pairsBlocks_34, r_M_pairsBlocks_35, r_M_pairsBlocks_36, r_M_pairsBlocks_37, r_M_pairsBlocks_40, r_M_pairsBlocks_43, r_M_pairsBlocks_44, r_M_pairsBlocks_46, r_M_pairsBlocks_49, r_M_pairsBlocks_50, r_M_pairsBlocks_53, r_M_pairsBlocks_54, r_M_pairsBlocks_55, r_M_pairsBlocks_58, r_M_pairsBlocks_59, r_M_pairsBlocks_62, r_M_pairsBlocks_63, r_M_pairsBlocks_64, r_M_pairsBlocks_67, r_M_pairsBlocks_68, r_M_pairsBlocks_69, r_M_pairsBlocks_70, r_M_pairsBlocks_71, r_M_pairsBlocks_74, r_M_pairsBlocks_75, r_M_pairsBlocks_78, r_M_pairsBlocks_79, r_M_pairsBlocks_80, r_M_pairsBlocks_81, r_M_pairsBlocks_82, r_M_pairsBlocks_85, r_M_pairsBlocks_88, r_M_pairsBlocks_89, r_M_pairsBlocks_92, r_M_pairsBlocks_93, r_M_pairsBlocks_96, r_M_pairsBlocks_97, cf_ge8 h8, ↓reduceIte, nI_1, cf_in_nI h8 (by decide), true_and, nI_clamp (show k < 2 ^ 31 by omega), cf_in_nI hl8 (by decide), nI_clamp hl, cf_wa_s, cf_wa_n, pk_us, pk_un, ne_eq, Nat.reduceEqDiff, not_false_eq_true, reduceCtorEq, cf_ne0 hl]
    by_cases h4 : cf_op (w 6 k) = 4 ∨ cf_op (w 6 k) = 5
    · have key := ih (k + 1) (k :: s) q a (upd st s.length (nI k)) (by omega) (cf_pp_4 hp h4) (cf_pI_push h8 hI) (some (.inl (cf_op (w 6 k))))
      have e : cf_wa (cf_wa (cf_wa w 8 st) 7 a) 8 (upd st s.length (nI k)) = cf_wa (cf_wa w 8 (upd st s.length (nI k))) 7 a := by
        funext j
        unfold cf_wa
        by_cases j8 : j = 8
        · subst j8; rfl
        · simp [j8]
      rw [e]
      rcases h4 with h4 | h4
      · rw [if_pos h4]
        exact key
      · by_cases h44 : cf_op (w 6 k) = 4
        · rw [if_pos h44]
          exact key
        · rw [if_neg h44, if_neg (fun x => x h4)]
          exact key
    · have h44 : ¬ cf_op (w 6 k) = 4 := fun x => h4 (Or.inl x)
      have h45 : ¬ cf_op (w 6 k) = 5 := fun x => h4 (Or.inr x)
      rw [if_neg h44, if_pos h45]
      by_cases h6 : cf_op (w 6 k) = 6
      · rw [if_neg (fun x => x h6)]
        cases s with
        | nil =>
          rw [if_neg (fun x => x rfl)]
          refine ⟨by simp, a, st, rfl, Or.inr (?_ : _)⟩
          first | refine ⟨by simp, fun ⟨q2, hq⟩ => ?_⟩ | refine fun ⟨q2, hq⟩ => ?_
          have hn := cf_pp_n (cf_pp_60 hp h6) (7 - k)
          have e : k + 1 + (7 - k) = 8 := by omega
          rw [e] at hn
          have hq : cf_pp (w 6) 8 = some ([], q2) := hq
          rw [hn] at hq
          cases hq
        | cons i s =>
          have hi : i < k := hI.2.1 i List.mem_cons_self
          have e0 : st s.length = nI i := by
            have := hI.1 0 i rfl
            simpa using this
          have key := ih (k + 1) s (upd (upd q k (nI i)) i (nI k)) (upd (upd a k (nI i)) i (nI k)) st (by omega) (cf_pp_6 hp h6) (cf_pI_pop h8 hI) (some (.inl (cf_op (w 6 k))))
          have hl2 : s.length < 8 := by simp at hl8; omega
          have hne : ¬ (i :: s).length = 0 := by simp
          rw [if_pos hne]
          simp only [List.length_cons, cf_sub1, cf_in_nI hl2 (by decide), nI_clamp (show s.length < 2 ^ 31 by omega), true_and, cf_wa_s, cf_wa_n, pk_us, pk_un, ne_eq, Nat.reduceEqDiff, not_false_eq_true, reduceCtorEq, e0, cf_wa_wa, cf_in_nI (show i < 8 by omega) (by decide), nI_clamp (show i < 2 ^ 31 by omega)]
          exact key
      · rw [if_pos h6]
        have hpk : ¬ cf_pk (w 6 k) := fun x => by
          rcases x with x | x | x
          · exact h44 x
          · exact h45 x
          · exact h6 x
        exact ih (k + 1) s q a st (by omega) (cf_pp_s hp hpk) (cf_pI_skip hpk hI) _
theorem sp_M_pairsBlocks {w : cf_Wd} : ∃ x w1, F_M_pairsBlocks [.inr 5] w = some (some (.inl x), w1) ∧ (∃ a' st', w1 = cf_wa (cf_wa w 8 st') 7 a' ∧ ((x = 1 ∧ ∃ q, cf_pO (w 6) q ∧ cf_pI (w 6) 8 [] q a' st') ∨ (x = 0 ∧ ¬ ∃ q, cf_pO (w 6) q))) := by
  refine e_M_pairsBlocks ?_
  simp only [r_M_pairsBlocks_0, r_M_pairsBlocks_1, r_M_pairsBlocks_2, r_M_pairsBlocks_3]
  have h := lp_M_pairsBlocks (w := w) 8 0 [] (fun _ => -1) (w 7) (w 8) (by omega) rfl ⟨fun i x hx => by simp at hx, fun x hx => by simp at hx, Nat.zero_le _, fun j hj => absurd hj (Nat.not_lt_zero j)⟩ none
  rw [cf_wa_id (w := w) (k := 8) rfl, cf_wa_id (w := w) (k := 7) rfl] at h
  exact h
/-! buildable: variables are set before they are read -/
def cf_rv (c : Int32) : Int32 := if cf_op c = 2 then 1 <<< (cf_lf c &&& 31) ||| 1 <<< (cf_rt c &&& 31) else if cf_op c = 3 ∨ cf_op c = 4 ∨ cf_op c = 5 ∨ cf_op c = 7 then 1 <<< (cf_lf c &&& 31) else if cf_op c = 8 then 1 <<< (cf_rt c &&& 31) else 0
theorem cf_op10 {c : Int32} (h : cf_cd c) : cf_op c = 0 ∨ cf_op c = 1 ∨ cf_op c = 2 ∨ cf_op c = 3 ∨ cf_op c = 4 ∨ cf_op c = 5 ∨ cf_op c = 6 ∨ cf_op c = 7 ∨ cf_op c = 8 ∨ cf_op c = 9 := by
  obtain ⟨o, l, r, ho, _, _, e, _, _⟩ := cf_cd_p h
  rw [e]
  have : ∀ o, o < 10 → (nI o = 0 ∨ nI o = 1 ∨ nI o = 2 ∨ nI o = 3 ∨ nI o = 4 ∨ nI o = 5 ∨ nI o = 6 ∨ nI o = 7 ∨ nI o = 8 ∨ nI o = 9) := by decide +kernel
  exact this o ho
theorem sp_M_readVariables {c : Int32} (h : cf_cd c) {w : cf_Wd} : F_M_readVariables [.inl c] w = some (some (.inl (cf_rv c)), w) := by
  refine cf_is (e_M_readVariables ?_)
  rcases cf_op10 h with e | e | e | e | e | e | e | e | e | e <;> simp [r_M_readVariables_0, c_M_readVariables_1 sp_M_operation, r_M_readVariables_4_0, r_M_readVariables_4_1, r_M_readVariables_4_2, r_M_readVariables_4_3, r_M_readVariables_4_4, r_M_readVariables_4_5, r_M_readVariables_4_6, r_M_readVariables_4_7, r_M_readVariables_4_8, r_M_readVariables_4_9, r_M_readVariables_48, r_M_readVariables_49, c_M_readVariables_50 sp_M_left, r_M_readVariables_53, r_M_readVariables_54, r_M_readVariables_55, c_M_readVariables_56 sp_M_right, r_M_readVariables_59, r_M_readVariables_60, r_M_readVariables_61, r_M_readVariables_62, r_M_readVariables_63, c_M_readVariables_64 sp_M_left, r_M_readVariables_67, r_M_readVariables_68, r_M_readVariables_69, r_M_readVariables_70, c_M_readVariables_71 sp_M_right, r_M_readVariables_74, r_M_readVariables_75, r_M_readVariables_76, r_M_readVariables_77, cf_rv, e]
def cf_mk (p : Nat → Int32) : Nat → Int32
  | 0 => 1
  | k + 1 => if cf_op (p k) = 1 ∨ cf_op (p k) = 8 then cf_mk p k ||| 1 <<< (cf_lf (p k) &&& 31) else cf_mk p k
def cf_sb (p : Nat → Int32) : Prop := ∀ k, k < 8 → cf_rv (p k) &&& (cf_mk p k ^^^ -1) = 0
theorem lp_M_setsBeforeReading {w : cf_Wd} (hp : ∀ j, j < 8 → cf_cd (w 6 j)) : ∀ d k, k + d = 8 → (∀ j, j < k → cf_rv (w 6 j) &&& (cf_mk (w 6) j ^^^ -1) = 0) → ∀ l3, cf_wp T_M_setsBeforeReading (4, [some (.inr 5), some (.inl (cf_mk (w 6) k)), some (.inl (nI k)), l3], [], w) (cf_qb (fun x w1 => ((x = 1 ∧ cf_sb (w 6)) ∨ (x = 0 ∧ ¬ cf_sb (w 6))) ∧ w1 = w)) := by
  intro d
  induction d with
  | zero =>
    intro k hk hj l3
    have e : k = 8 := by omega
    subst e
    refine r_M_setsBeforeReading_4.mpr ?_
    simp only [r_M_setsBeforeReading_0, r_M_setsBeforeReading_1, r_M_setsBeforeReading_2, r_M_setsBeforeReading_3, r_M_setsBeforeReading_5, r_M_setsBeforeReading_7, r_M_setsBeforeReading_10, r_M_setsBeforeReading_11, r_M_setsBeforeReading_14, r_M_setsBeforeReading_15, r_M_setsBeforeReading_16, r_M_setsBeforeReading_17, r_M_setsBeforeReading_18, r_M_setsBeforeReading_21, r_M_setsBeforeReading_22, r_M_setsBeforeReading_23, r_M_setsBeforeReading_24, r_M_setsBeforeReading_25, r_M_setsBeforeReading_28, r_M_setsBeforeReading_29, r_M_setsBeforeReading_30, c_M_setsBeforeReading_31 sp_M_operation, r_M_setsBeforeReading_34, r_M_setsBeforeReading_35, r_M_setsBeforeReading_38, c_M_setsBeforeReading_39 sp_M_operation, r_M_setsBeforeReading_42, r_M_setsBeforeReading_44, r_M_setsBeforeReading_47, r_M_setsBeforeReading_48, r_M_setsBeforeReading_49, c_M_setsBeforeReading_50 sp_M_left, r_M_setsBeforeReading_53, r_M_setsBeforeReading_54, r_M_setsBeforeReading_55, r_M_setsBeforeReading_56, r_M_setsBeforeReading_59, r_M_setsBeforeReading_62, r_M_setsBeforeReading_63, cf_ge88, ↓reduceIte]
    have hh : cf_sb (w 6) := hj
    simp [hh]
  | succ d ih =>
    intro k hk hj l3
    have h8 : k < 8 := by omega
    have ih1 := ih (k + 1) (by omega)
    refine r_M_setsBeforeReading_4.mpr ?_
    simp only [r_M_setsBeforeReading_0, r_M_setsBeforeReading_1, r_M_setsBeforeReading_2, r_M_setsBeforeReading_3, r_M_setsBeforeReading_5, r_M_setsBeforeReading_7, r_M_setsBeforeReading_10, r_M_setsBeforeReading_11, r_M_setsBeforeReading_14, r_M_setsBeforeReading_15, r_M_setsBeforeReading_16, r_M_setsBeforeReading_17, c_M_setsBeforeReading_18 (sp_M_readVariables (hp k h8)), r_M_setsBeforeReading_21, r_M_setsBeforeReading_22, r_M_setsBeforeReading_23, r_M_setsBeforeReading_24, r_M_setsBeforeReading_25, r_M_setsBeforeReading_28, r_M_setsBeforeReading_29, r_M_setsBeforeReading_30, c_M_setsBeforeReading_31 sp_M_operation, r_M_setsBeforeReading_34, r_M_setsBeforeReading_35, r_M_setsBeforeReading_38, c_M_setsBeforeReading_39 sp_M_operation, r_M_setsBeforeReading_42, r_M_setsBeforeReading_44, r_M_setsBeforeReading_47, r_M_setsBeforeReading_48, r_M_setsBeforeReading_49, c_M_setsBeforeReading_50 sp_M_left, r_M_setsBeforeReading_53, r_M_setsBeforeReading_54, r_M_setsBeforeReading_55, r_M_setsBeforeReading_56, r_M_setsBeforeReading_59, r_M_setsBeforeReading_62, r_M_setsBeforeReading_63, cf_ge8 h8, ↓reduceIte, nI_1, cf_in_nI h8 (by decide), true_and, nI_clamp (show k < 2 ^ 31 by omega)]
    by_cases h : cf_rv (w 6 k) &&& (cf_mk (w 6) k ^^^ -1) = 0
    · rw [if_pos h]
      have hj2 : ∀ j, j < k + 1 → cf_rv (w 6 j) &&& (cf_mk (w 6) j ^^^ -1) = 0 := fun j hj3 => by
        by_cases e : j = k
        · subst e
          exact h
        · exact hj j (by omega)
      by_cases h1 : cf_op (w 6 k) = 1 ∨ cf_op (w 6 k) = 8
      · have key := ih1 hj2 (some (.inl (w 6 k)))
        rw [show cf_mk (w 6) (k + 1) = cf_mk (w 6) k ||| 1 <<< (cf_lf (w 6 k) &&& 31) from if_pos h1] at key
        by_cases h11 : cf_op (w 6 k) = 1
        · rw [if_pos h11]
          exact key
        · rcases h1 with h1 | h1
          · exact absurd h1 h11
          · rw [if_neg h11, if_neg (fun x => x h1)]
            exact key
      · have key := ih1 hj2 (some (.inl (w 6 k)))
        rw [show cf_mk (w 6) (k + 1) = cf_mk (w 6) k from if_neg h1] at key
        rw [if_neg (fun x => h1 (Or.inl x)), if_pos (fun x => h1 (Or.inr x))]
        exact key
    · rw [if_neg h]
      have hh : ¬ cf_sb (w 6) := fun x => h (x k h8)
      simp [hh]
theorem sp_M_setsBeforeReading {w : cf_Wd} (hp : ∀ j, j < 8 → cf_cd (w 6 j)) : ∃ x w1, F_M_setsBeforeReading [.inr 5] w = some (some (.inl x), w1) ∧ (((x = 1 ∧ cf_sb (w 6)) ∨ (x = 0 ∧ ¬ cf_sb (w 6))) ∧ w1 = w) := by
  refine e_M_setsBeforeReading ?_
  simp only [r_M_setsBeforeReading_0, r_M_setsBeforeReading_1, r_M_setsBeforeReading_2, r_M_setsBeforeReading_3]
  exact lp_M_setsBeforeReading hp 8 0 (by omega) (fun j hj => absurd hj (Nat.not_lt_zero j)) none
