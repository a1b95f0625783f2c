/-! The reflected machine: a configuration is (pc, locals, stack, world of 26 cells); a row is what an instruction does to it.
    'cf_Runs T c q': by the rows T the configuration c comes to the answer q. cf_Ct: a method's contract over the one world. -/
abbrev cf_AV : Type := Int32 ⊕ Nat
abbrev cf_Wd : Type := Nat → Nat → Int32
abbrev cf_Cfg : Type := Nat × (List (Option cf_AV) × (List cf_AV × cf_Wd))
abbrev cf_Rs : Type := Option cf_AV × cf_Wd
abbrev cf_Rw : Type := List (Option cf_AV) → List cf_AV → cf_Wd → Option (cf_Cfg ⊕ cf_Rs)
/-- the world w with the cell k's numbers f -/
def cf_wa (w : cf_Wd) (k : Nat) (f : Nat → Int32) : cf_Wd := fun j => if j = k then f else w j
theorem cf_wa_s (w : cf_Wd) (k : Nat) (f : Nat → Int32) : cf_wa w k f k = f := if_pos rfl
theorem cf_wa_n (w : cf_Wd) {k j : Nat} (f : Nat → Int32) (h : j ≠ k) : cf_wa w k f j = w j := if_neg h
/-! runs -/
def cf_Runs (T : Nat → cf_Rw) (c : cf_Cfg) (q : cf_Rs) : Prop :=
  ∀ V : cf_Cfg → Prop, (∀ a b : cf_Cfg, T a.1 a.2.1 a.2.2.1 a.2.2.2 = some (.inl b) → V b → V a) → (∀ a : cf_Cfg, T a.1 a.2.1 a.2.2.1 a.2.2.2 = some (.inr q) → V a) → V c
def cf_st (T : Nat → cf_Rw) (a : cf_Cfg) : Option (cf_Cfg ⊕ cf_Rs) := T a.1 a.2.1 a.2.2.1 a.2.2.2
def cf_stn (T : Nat → cf_Rw) : Nat → cf_Cfg → Option cf_Cfg
  | 0, a => some a
  | n + 1, a => match cf_st T a with
    | some (.inl b) => cf_stn T n b
    | _ => none
theorem cf_Runs.one {T : Nat → cf_Rw} {a b : cf_Cfg} {q : cf_Rs} (h : cf_st T a = some (.inl b)) (k : cf_Runs T b q) : cf_Runs T a q := fun V h1 h2 => h1 a b h (k V h1 h2)
theorem cf_Runs.fin {T : Nat → cf_Rw} {a : cf_Cfg} {q : cf_Rs} (h : cf_st T a = some (.inr q)) : cf_Runs T a q := fun _ _ h2 => h2 a h
theorem cf_Runs.n {T : Nat → cf_Rw} (n : Nat) : ∀ {a b : cf_Cfg} {q : cf_Rs}, cf_stn T n a = some b → cf_Runs T b q → cf_Runs T a q := by
  induction n with
  | zero =>
    intro a b q h k
    have e : a = b := Option.some.inj h
    subst e
    exact k
  | succ n ih =>
    intro a b q h k
    have h' : (match cf_st T a with | some (.inl b) => cf_stn T n b | _ => none) = some b := h
    cases hs : cf_st T a with
    | none => rw [hs] at h'; cases h'
    | some o =>
      cases o with
      | inl c => rw [hs] at h'; exact cf_Runs.one hs (ih h' k)
      | inr r => rw [hs] at h'; cases h'
theorem cf_Runs.br {T : Nat → cf_Rw} {a b1 b2 : cf_Cfg} {q : cf_Rs} {c : Prop} [inst : Decidable c] (h : cf_st T a = some (.inl (if c then b1 else b2))) (k1 : c → cf_Runs T b1 q) (k2 : ¬ c → cf_Runs T b2 q) : cf_Runs T a q := by
  by_cases hc : c
  · rw [if_pos hc] at h; exact cf_Runs.one h (k1 hc)
  · rw [if_neg hc] at h; exact cf_Runs.one h (k2 hc)
theorem cf_Runs.gd {T : Nat → cf_Rw} {a b : cf_Cfg} {q : cf_Rs} {g : Bool} (h : cf_st T a = bif g then some (.inl b) else none) (hg : g = true) (k : cf_Runs T b q) : cf_Runs T a q := by
  rw [hg] at h; exact cf_Runs.one h k
/-! the rows -/
def cf_in (i : Int32) (n : Nat) : Bool := decide (0 ≤ i.toInt) && decide (i.toInt < (n : Int))
theorem cf_in_vp {i : Int32} {n : Nat} (h : cf_in i n = true) : vp_in i n := by
  unfold cf_in at h
  rw [Bool.and_eq_true, decide_eq_true_eq, decide_eq_true_eq] at h
  exact vp_in_iff.mpr h
theorem cf_in_nI {j n : Nat} (h : j < n) (hn : n < 2 ^ 31) : cf_in (nI j) n = true := by
  unfold cf_in
  rw [nI_toInt (Nat.lt_trans h hn), Bool.and_eq_true, decide_eq_true_eq, decide_eq_true_eq]
  omega
def cf_const (x : Int32) (nx : Nat) : cf_Rw := fun L st w => some (.inl (nx, L, .inl x :: st, w))
def cf_iload (i nx : Nat) : cf_Rw := fun L st w => match L[i]? with
  | some (some (.inl x)) => some (.inl (nx, L, .inl x :: st, w))
  | _ => none
def cf_aload (i nx : Nat) : cf_Rw := fun L st w => match L[i]? with
  | some (some (.inr a)) => some (.inl (nx, L, .inr a :: st, w))
  | _ => none
def cf_istore (i nx : Nat) : cf_Rw := fun L st w => match st with
  | .inl x :: r => some (.inl (nx, L.set i (some (.inl x)), r, w))
  | _ => none
def cf_iinc (i : Nat) (k : Int32) (nx : Nat) : cf_Rw := fun L st w => match L[i]? with
  | some (some (.inl x)) => some (.inl (nx, L.set i (some (.inl (x + k))), st, w))
  | _ => none
def cf_bin (f : Int32 → Int32 → Int32) (nx : Nat) : cf_Rw := fun L st w => match st with
  | .inl y :: .inl x :: r => some (.inl (nx, L, .inl (f x y) :: r, w))
  | _ => none
def cf_div (nx : Nat) : cf_Rw := fun L st w => match st with
  | .inl y :: .inl x :: r => bif !(y == 0) then some (.inl (nx, L, .inl (x / y) :: r, w)) else none
  | _ => none
def cf_rem (nx : Nat) : cf_Rw := fun L st w => match st with
  | .inl y :: .inl x :: r => bif !(y == 0) then some (.inl (nx, L, .inl (x - x / y * y) :: r, w)) else none
  | _ => none
def cf_dup (nx : Nat) : cf_Rw := fun L st w => match st with
  | v :: r => some (.inl (nx, L, v :: v :: r, w))
  | _ => none
def cf_dup2 (nx : Nat) : cf_Rw := fun L st w => match st with
  | v :: u :: r => some (.inl (nx, L, v :: u :: v :: u :: r, w))
  | _ => none
def cf_goto (t : Nat) : cf_Rw := fun L st w => some (.inl (t, L, st, w))
def cf_ifeq (t nx : Nat) : cf_Rw := fun L st w => match st with
  | .inl x :: r => some (.inl (if x = 0 then (t, L, r, w) else (nx, L, r, w)))
  | _ => none
def cf_ifne (t nx : Nat) : cf_Rw := fun L st w => match st with
  | .inl x :: r => some (.inl (if ¬ x = 0 then (t, L, r, w) else (nx, L, r, w)))
  | _ => none
def cf_iflt (t nx : Nat) : cf_Rw := fun L st w => match st with
  | .inl x :: r => some (.inl (if x < 0 then (t, L, r, w) else (nx, L, r, w)))
  | _ => none
def cf_ifge (t nx : Nat) : cf_Rw := fun L st w => match st with
  | .inl x :: r => some (.inl (if 0 ≤ x then (t, L, r, w) else (nx, L, r, w)))
  | _ => none
def cf_ifgt (t nx : Nat) : cf_Rw := fun L st w => match st with
  | .inl x :: r => some (.inl (if 0 < x then (t, L, r, w) else (nx, L, r, w)))
  | _ => none
def cf_ifle (t nx : Nat) : cf_Rw := fun L st w => match st with
  | .inl x :: r => some (.inl (if x ≤ 0 then (t, L, r, w) else (nx, L, r, w)))
  | _ => none
def cf_iceq (t nx : Nat) : cf_Rw := fun L st w => match st with
  | .inl y :: .inl x :: r => some (.inl (if x = y then (t, L, r, w) else (nx, L, r, w)))
  | _ => none
def cf_icne (t nx : Nat) : cf_Rw := fun L st w => match st with
  | .inl y :: .inl x :: r => some (.inl (if ¬ x = y then (t, L, r, w) else (nx, L, r, w)))
  | _ => none
def cf_iclt (t nx : Nat) : cf_Rw := fun L st w => match st with
  | .inl y :: .inl x :: r => some (.inl (if x < y then (t, L, r, w) else (nx, L, r, w)))
  | _ => none
def cf_icge (t nx : Nat) : cf_Rw := fun L st w => match st with
  | .inl y :: .inl x :: r => some (.inl (if y ≤ x then (t, L, r, w) else (nx, L, r, w)))
  | _ => none
def cf_icgt (t nx : Nat) : cf_Rw := fun L st w => match st with
  | .inl y :: .inl x :: r => some (.inl (if y < x then (t, L, r, w) else (nx, L, r, w)))
  | _ => none
def cf_icle (t nx : Nat) : cf_Rw := fun L st w => match st with
  | .inl y :: .inl x :: r => some (.inl (if x ≤ y then (t, L, r, w) else (nx, L, r, w)))
  | _ => none
/-- the shape of the 26 cells: the length of a row of ints, or the place of its kind among cf_cls and its fields (some t: a reference to the cell t; none: an int) -/
def cf_shp : Nat → Nat ⊕ (Nat × List (Option Nat))
  | 0 => .inr (4, [some 1, some 5, some 10])
  | 1 => .inr (0, [some 2, some 3, some 4, none, none])
  | 2 => .inl 14
  | 3 => .inl 14
  | 4 => .inl 112
  | 5 => .inr (1, [some 6, some 7, some 8, some 9])
  | 6 => .inl 8
  | 7 => .inl 8
  | 8 => .inl 8
  | 9 => .inl 10
  | 10 => .inr (3, [some 1, some 5, some 11, some 13, some 14, none, none, none, none, none, none, none, none, none, none, none, none])
  | 11 => .inr (2, [some 12, none, none])
  | 12 => .inl 256
  | 13 => .inl 270
  | 14 => .inl 14
  | 15 => .inr (5, [none, some 16, some 17, some 18, some 19, none, none, none, none, none, none, none, some 20, some 21, some 22, some 23, some 24, some 25, none, none, none, none, none, none])
  | 16 => .inl 14
  | 17 => .inl 14
  | 18 => .inl 112
  | 19 => .inl 14
  | 20 => .inl 600
  | 21 => .inl 600
  | 22 => .inl 8
  | 23 => .inl 8
  | 24 => .inl 8
  | 25 => .inl 10
  | _ => .inl 0
def cf_get (ci j nx : Nat) : cf_Rw := fun L st w => match st with
  | .inr k :: r => match cf_shp k with
    | .inr (ci', fs) => bif Nat.beq ci' ci then (match fs[j]? with
      | some none => some (.inl (nx, L, .inl (w k j) :: r, w))
      | some (some t) => some (.inl (nx, L, .inr t :: r, w))
      | none => none) else none
    | .inl _ => none
  | _ => none
def cf_put (ci j nx : Nat) : cf_Rw := fun L st w => match st with
  | .inl x :: .inr k :: r => match cf_shp k with
    | .inr (ci', fs) => bif Nat.beq ci' ci then (match fs[j]? with
      | some none => some (.inl (nx, L, r, cf_wa w k (upd (w k) j x)))
      | _ => none) else none
    | .inl _ => none
  | _ => none
def cf_putz (ci j nx : Nat) : cf_Rw := fun L st w => match st with
  | .inl x :: .inr k :: r => match cf_shp k with
    | .inr (ci', fs) => bif Nat.beq ci' ci then (match fs[j]? with
      | some none => bif (x == 0 || x == 1) then some (.inl (nx, L, r, cf_wa w k (upd (w k) j x))) else none
      | _ => none) else none
    | .inl _ => none
  | _ => none
def cf_iald (nx : Nat) : cf_Rw := fun L st w => match st with
  | .inl i :: .inr k :: r => match cf_shp k with
    | .inl n => bif cf_in i n then some (.inl (nx, L, .inl (w k i.toNatClampNeg) :: r, w)) else none
    | .inr _ => none
  | _ => none
def cf_iast (nx : Nat) : cf_Rw := fun L st w => match st with
  | .inl x :: .inl i :: .inr k :: r => match cf_shp k with
    | .inl n => bif cf_in i n then some (.inl (nx, L, r, cf_wa w k (upd (w k) i.toNatClampNeg x))) else none
    | .inr _ => none
  | _ => none
def cf_alen (nx : Nat) : cf_Rw := fun L st w => match st with
  | .inr k :: r => match cf_shp k with
    | .inl n => bif Nat.blt k 26 then some (.inl (nx, L, .inl (nI n) :: r, w)) else none
    | .inr _ => none
  | _ => none
def cf_tsw (lo hi : Int) (dflt : Nat) (tg : List Nat) : cf_Rw := fun L st w => match st with
  | .inl x :: r => some (.inl ((if x.toInt < lo ∨ hi < x.toInt then dflt else tg.getD (x.toInt - lo).toNat 0), L, r, w))
  | _ => none
def cf_iret : cf_Rw := fun _ st w => match st with
  | [.inl x] => some (.inr (some (.inl x), w))
  | _ => none
def cf_vret : cf_Rw := fun _ st w => match st with
  | [] => some (.inr (none, w))
  | _ => none
/-- a call of n values (the receiver among them): F says what it does -/
def cf_call (n : Nat) (F : List cf_AV → cf_Wd → Option cf_Rs) (nx : Nat) : cf_Rw := fun L st w => bif Nat.ble (st.drop n).length 8 then (match F (st.take n).reverse w with
  | some q => some (.inl (nx, L, q.1.toList ++ st.drop n, q.2))
  | none => none) else none
def cf_cpy (nx : Nat) : cf_Rw := fun L st w => match st with
  | .inl n :: .inl dp :: .inr k :: .inl sp :: .inr k0 :: r => match cf_shp k, cf_shp k0 with
    | .inl N, .inl N0 => bif (decide (0 ≤ n.toInt) && decide (0 ≤ dp.toInt) && decide (0 ≤ sp.toInt) && decide (sp.toInt + n.toInt ≤ (N0 : Int)) && decide (dp.toInt + n.toInt ≤ (N : Int)) && Nat.ble r.length 8 && Nat.blt k 26 && Nat.blt k0 26) then some (.inl (nx, L, r, cf_wa w k (va_cpy (w k0) (w k) sp.toNatClampNeg dp.toNatClampNeg n.toNatClampNeg))) else none
    | _, _ => none
  | _ => none
def cf_stuck : cf_Rw := fun _ _ _ => none
