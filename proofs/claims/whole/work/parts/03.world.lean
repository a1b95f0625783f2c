/-! the world of 26 cells as the kit has it; a method's context; what it is that a row is sound -/
def cf_v (ad : Nat → Nat) : cf_AV → Value
  | .inl x => .int x
  | .inr k => .ref (ad k)
theorem cf_v_cat (ad : Nat → Nat) (a : cf_AV) : (cf_v ad a).category = 1 := by cases a <;> rfl
def cf_fv (ad : Nat → Nat) (f : Nat → Int32) : Nat → List (Option Nat) → List Value
  | _, [] => []
  | k, none :: r => .int (f k) :: cf_fv ad f (k + 1) r
  | k, some t :: r => .ref (ad t) :: cf_fv ad f (k + 1) r
theorem cf_fv_len (ad : Nat → Nat) (f : Nat → Int32) : ∀ (fs : List (Option Nat)) (i : Nat), (cf_fv ad f i fs).length = fs.length := by
  intro fs
  induction fs with
  | nil => intro i; rfl
  | cons a r ih => intro i; cases a <;> simp [cf_fv, ih]
theorem cf_fv_int (ad : Nat → Nat) (f : Nat → Int32) : ∀ (fs : List (Option Nat)) (i j : Nat), fs[j]? = some none → (cf_fv ad f i fs)[j]? = some (.int (f (i + j))) := by
  intro fs
  induction fs with
  | nil => intro i j h; simp at h
  | cons a r ih =>
    intro i j h
    cases j with
    | zero =>
      have e : a = none := by simpa using h
      subst e
      simp [cf_fv]
    | succ j =>
      have h' : r[j]? = some none := by simpa using h
      have e := ih (i + 1) j h'
      cases a <;> simp only [cf_fv, List.getElem?_cons_succ] <;> rw [e] <;> congr 3 <;> omega
theorem cf_fv_ref (ad : Nat → Nat) (f : Nat → Int32) {t : Nat} : ∀ (fs : List (Option Nat)) (i j : Nat), fs[j]? = some (some t) → (cf_fv ad f i fs)[j]? = some (.ref (ad t)) := by
  intro fs
  induction fs with
  | nil => intro i j h; simp at h
  | cons a r ih =>
    intro i j h
    cases j with
    | zero =>
      have e : a = some t := by simpa using h
      subst e
      simp [cf_fv]
    | succ j =>
      have h' : r[j]? = some (some t) := by simpa using h
      have e := ih (i + 1) j h'
      cases a <;> simp only [cf_fv, List.getElem?_cons_succ] <;> rw [e]
theorem cf_fv_congr (ad : Nat → Nat) {f g : Nat → Int32} : ∀ (fs : List (Option Nat)) (i : Nat), (∀ q, i ≤ q → f q = g q) → cf_fv ad f i fs = cf_fv ad g i fs := by
  intro fs
  induction fs with
  | nil => intro i h; rfl
  | cons a r ih =>
    intro i h
    have e := ih (i + 1) (fun q hq => h q (by omega))
    cases a with
    | none => simp only [cf_fv]; rw [h i (Nat.le_refl i), e]
    | some t => simp only [cf_fv]; rw [e]
theorem cf_us0 (f : Nat → Int32) (i : Nat) (x : Int32) : upd f (i + 0) x i = x := by simp [upd]
theorem cf_fv_set (ad : Nat → Nat) (x : Int32) : ∀ (fs : List (Option Nat)) (f : Nat → Int32) (i j : Nat), fs[j]? = some none → (cf_fv ad f i fs).set j (.int x) = cf_fv ad (upd f (i + j) x) i fs := by
  intro fs
  induction fs with
  | nil => intro f i j h; simp at h
  | cons a r ih =>
    intro f i j h
    cases j with
    | zero =>
      have e : a = none := by simpa using h
      subst e
      have e2 : cf_fv ad f (i + 1) r = cf_fv ad (upd f (i + 0) x) (i + 1) r := cf_fv_congr ad r (i + 1) (fun q hq => by rw [pk_un (by omega)])
      simp only [cf_fv, List.set_cons_zero]
      rw [e2, cf_us0 f i x]
    | succ j =>
      have h' : r[j]? = some none := by simpa using h
      have e := ih f (i + 1) j h'
      have e3 : i + 1 + j = i + (j + 1) := by omega
      rw [e3] at e
      cases a with
      | none =>
        simp only [cf_fv, List.set_cons_succ]
        rw [e, pk_un (f := f) (k := i + (j + 1)) (j := i) (x := x) (by omega)]
      | some t =>
        simp only [cf_fv, List.set_cons_succ]
        rw [e]
def cf_cel (cA : ClassId) (ad : Nat → Nat) (w : cf_Wd) (k : Nat) : va_E := match cf_shp k with
  | .inl n => .inl (cA, n, .inl (w k))
  | .inr q => .inr (q.1, cf_fv ad (w k) 0 q.2)
def cf_ws (cA : ClassId) (ad : Nat → Nat) (w : cf_Wd) : va_W := (List.range 26).map (fun k => (ad k, cf_cel cA ad w k))
theorem cf_ws_at (cA : ClassId) (ad : Nat → Nat) (w : cf_Wd) (j : Nat) : (cf_ws cA ad w)[j]? = if j < 26 then some (ad j, cf_cel cA ad w j) else none := by
  unfold cf_ws
  rw [List.getElem?_map]
  by_cases h : j < 26
  · rw [List.getElem?_range h, if_pos h]; rfl
  · rw [if_neg h, List.getElem?_eq_none (by simpa using Nat.not_lt.mp h)]; rfl
theorem cf_cel_a {cA : ClassId} {ad : Nat → Nat} {w : cf_Wd} {k n : Nat} (h : cf_shp k = .inl n) : cf_cel cA ad w k = .inl (cA, n, .inl (w k)) := by unfold cf_cel; rw [h]
theorem cf_cel_o {cA : ClassId} {ad : Nat → Nat} {w : cf_Wd} {k : Nat} {q : Nat × List (Option Nat)} (h : cf_shp k = .inr q) : cf_cel cA ad w k = .inr (q.1, cf_fv ad (w k) 0 q.2) := by unfold cf_cel; rw [h]
theorem cf_cel_n {cA : ClassId} {ad : Nat → Nat} {w : cf_Wd} {k j : Nat} (f : Nat → Int32) (h : j ≠ k) : cf_cel cA ad (cf_wa w k f) j = cf_cel cA ad w j := by
  unfold cf_cel; rw [cf_wa_n w f h]
theorem cf_ws_set {cA : ClassId} {ad : Nat → Nat} {w : cf_Wd} {k : Nat} {f : Nat → Int32} {E : va_E} (hE : E = cf_cel cA ad (cf_wa w k f) k) : (cf_ws cA ad w).set k (ad k, E) = cf_ws cA ad (cf_wa w k f) := by
  apply List.ext_getElem?
  intro j
  rw [List.getElem?_set, cf_ws_at, cf_ws_at]
  have hlen : (cf_ws cA ad w).length = 26 := by simp [cf_ws]
  by_cases hj : k = j
  · subst hj
    by_cases h26 : k < 26
    · simp [hlen, h26, hE]
    · simp [hlen, h26]
  · rw [if_neg hj]
    by_cases h26 : j < 26
    · rw [if_pos h26, if_pos h26, cf_cel_n f (fun e => hj e.symm)]
    · rw [if_neg h26, if_neg h26]
theorem cf_set_a {cA : ClassId} {ad : Nat → Nat} {w : cf_Wd} {k n : Nat} (f : Nat → Int32) (h : cf_shp k = .inl n) : (cf_ws cA ad w).set k (ad k, .inl (cA, n, .inl f)) = cf_ws cA ad (cf_wa w k f) :=
  cf_ws_set (by rw [cf_cel_a h, cf_wa_s])
theorem cf_set_o {cA : ClassId} {ad : Nat → Nat} {w : cf_Wd} {k j : Nat} {q : Nat × List (Option Nat)} (x : Int32) (h : cf_shp k = .inr q) (hj : q.2[j]? = some none) : (cf_ws cA ad w).set k (ad k, .inr (q.1, (cf_fv ad (w k) 0 q.2).set j (.int x))) = cf_ws cA ad (cf_wa w k (upd (w k) j x)) :=
  cf_ws_set (by rw [cf_cel_o h, cf_wa_s, cf_fv_set ad x q.2 (w k) 0 j hj, Nat.zero_add])
theorem cf_shp_o {k : Nat} {q : Nat × List (Option Nat)} (h : cf_shp k = .inr q) : k < 26 := by
  by_cases hk : k < 26
  · exact hk
  · exfalso
    obtain ⟨j, rfl⟩ : ∃ j, k = j + 26 := ⟨k - 26, by omega⟩
    simp [cf_shp] at h
theorem cf_shp_a {k n : Nat} (h : cf_shp k = .inl n) (hn : 0 < n) : k < 26 := by
  by_cases hk : k < 26
  · exact hk
  · exfalso
    obtain ⟨j, rfl⟩ : ∃ j, k = j + 26 := ⟨k - 26, by omega⟩
    have e : (0 : Nat) = n := by simpa [cf_shp] using h
    omega
/-- the addresses are apart, and of the kind A -/
def cf_D (A : Nat → Prop) (ad : Nat → Nat) : Prop := (∀ i j, i < 26 → j < 26 → ad i = ad j → i = j) ∧ ∀ k, k < 26 → A (ad k)
theorem cf_D.va {A : Nat → Prop} {ad : Nat → Nat} (h : cf_D A ad) (cA : ClassId) (w : cf_Wd) : va_D A (cf_ws cA ad w) := by
  refine ⟨fun i j p q hp hq e => ?_, fun k q hq => ?_⟩
  · rw [cf_ws_at] at hp hq
    by_cases hi : i < 26
    · by_cases hj : j < 26
      · rw [if_pos hi] at hp
        rw [if_pos hj] at hq
        have e1 := Option.some.inj hp
        have e2 := Option.some.inj hq
        rw [← e1, ← e2] at e
        exact h.1 i j hi hj e
      · rw [if_neg hj] at hq; cases hq
    · rw [if_neg hi] at hp; cases hp
  · rw [cf_ws_at] at hq
    by_cases hk : k < 26
    · rw [if_pos hk] at hq
      rw [← Option.some.inj hq]
      exact h.2 k hk
    · rw [if_neg hk] at hq; cases hq
def cf_A (ad : Nat → Nat) : Nat → Prop := fun a => ∃ k, k < 26 ∧ a = ad k
/-! the words of the tables -/
def cf_g : Cond → Bool
  | .fieldLinkNest .. => true
  | .methodLinkNest .. => true
  | w => w.onTables && w.keeps
theorem cf_g_on {w : Cond} (h : cf_g w = true) : w.onTables = true := by
  cases w <;> first | rfl | (simp [cf_g, Cond.onTables] at h; done) | exact (Bool.and_eq_true .. ▸ h).1
def cf_B (U : State) : Prop := ∀ w ∈ lw_tbl, cf_g w = true → va_Nw w U
theorem cf_B.use {U : State} (h : cf_B U) {w : Cond} (hm : w ∈ lw_tbl) (hg : cf_g w = true) (a : Array Value) : w.before a U = true := va_Nw.use (cf_g_on hg) (h w hm hg)
theorem cf_B.same {u U : State} (e : u.vm = U.vm) (h : cf_B u) : cf_B U := fun w hm hg => va_Nw.same (cf_g_on hg) e (h w hm hg)
theorem cf_g_warm {s U : State} (hW : s.WarmedH U.vm) : ∀ {w : Cond}, cf_g w = true → va_Nw w s → va_Nw w U := by
  intro w hg h
  have key : (w.onTables && w.keeps) = true → va_Nw w U := fun hk => word_at hW (Or.inl hk) h
  cases w <;> first | exact va_Nw.warmF hW h | exact va_Nw.warmM hW h | exact key hg
theorem cf_B.warm {s U : State} (hW : s.WarmedH U.vm) (h : cf_B s) : cf_B U := fun w hm hg => cf_g_warm hW hg (h w hm hg)
/-! the list of what the places hold -/
def cf_lv (ad : Nat → Nat) : Nat → List (Option cf_AV) → List (Nat × Value)
  | _, [] => []
  | i, none :: r => cf_lv ad (i + 1) r
  | i, some v :: r => (i, cf_v ad v) :: cf_lv ad (i + 1) r
theorem cf_lv_mem {ad : Nat → Nat} {v : cf_AV} : ∀ (L : List (Option cf_AV)) (i j : Nat), L[j]? = some (some v) → (i + j, cf_v ad v) ∈ cf_lv ad i L := by
  intro L
  induction L with
  | nil => intro i j h; simp at h
  | cons a r ih =>
    intro i j h
    cases j with
    | zero =>
      have e : a = some v := by simpa using h
      subst e
      simp [cf_lv]
    | succ j =>
      have h' : r[j]? = some (some v) := by simpa using h
      have e := ih (i + 1) j h'
      have e3 : i + 1 + j = i + (j + 1) := by omega
      rw [e3] at e
      cases a with
      | none => simpa [cf_lv] using e
      | some u => simp only [cf_lv]; exact List.mem_cons_of_mem _ e
theorem cf_lv_of {ad : Nat → Nat} {q : Nat × Value} : ∀ (L : List (Option cf_AV)) (i : Nat), q ∈ cf_lv ad i L → ∃ (j : Nat) (v : cf_AV), L[j]? = some (some v) ∧ q = (i + j, cf_v ad v) := by
  intro L
  induction L with
  | nil => intro i h; simp [cf_lv] at h
  | cons a r ih =>
    intro i h
    cases a with
    | none =>
      obtain ⟨j, v, h1, h2⟩ := ih (i + 1) (by simpa [cf_lv] using h)
      exact ⟨j + 1, v, by simpa using h1, by rw [h2]; congr 1; omega⟩
    | some u =>
      simp only [cf_lv] at h
      rcases List.mem_cons.mp h with h | h
      · exact ⟨0, u, by simp, by simpa using h⟩
      · obtain ⟨j, v, h1, h2⟩ := ih (i + 1) h
        exact ⟨j + 1, v, by simpa using h1, by rw [h2]; congr 1; omega⟩
def cf_L (ad : Nat → Nat) (ls : Array Slot) (nL : Nat) (L : List (Option cf_AV)) : Prop := lv_has ls nL (cf_lv ad 0 L)
theorem cf_L.at {ad : Nat → Nat} {ls : Array Slot} {nL : Nat} {L : List (Option cf_AV)} (h : cf_L ad ls nL L) {j : Nat} {v : cf_AV} (hj : L[j]? = some (some v)) : ls[j]? = some (.val (cf_v ad v)) := by
  have e := cf_lv_mem (ad := ad) L 0 j hj
  rw [Nat.zero_add] at e
  exact h.2.2 _ e
theorem cf_L.put {ad : Nat → Nat} {ls' : Array Slot} {nL i : Nat} {L : List (Option cf_AV)} {v : cf_AV} (h : lv_has ls' nL ((i, cf_v ad v) :: (cf_lv ad 0 L).filter (fun q => !(q.1 == i) && !(q.1 + 1 == i && q.2.category == 2)))) : cf_L ad ls' nL (L.set i (some v)) := by
  refine ⟨h.1, h.2.1, fun q hq => ?_⟩
  obtain ⟨j, u, h1, h2⟩ := cf_lv_of _ 0 hq
  rw [Nat.zero_add] at h2
  subst h2
  by_cases hj : i = j
  · subst hj
    rw [List.getElem?_set] at h1
    have hu : u = v := by
      by_cases hl : i < L.length
      · rw [if_pos rfl, if_pos hl] at h1
        exact (Option.some.inj (Option.some.inj h1)).symm
      · rw [if_pos rfl, if_neg hl] at h1; cases h1
    rw [hu]
    exact h.2.2 _ List.mem_cons_self
  · rw [List.getElem?_set, if_neg hj] at h1
    have e := cf_lv_mem (ad := ad) L 0 j h1
    rw [Nat.zero_add] at e
    refine h.2.2 _ (List.mem_cons_of_mem _ (List.mem_filter.mpr ⟨e, ?_⟩))
    have hc := cf_v_cat ad u
    simp [hc]
    exact fun e => hj e.symm
