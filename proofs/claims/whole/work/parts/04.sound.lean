theorem cf_in_pos {i : Int32} {n : Nat} (h : cf_in i n = true) : 0 < n := by
  unfold cf_in at h
  rw [Bool.and_eq_true, decide_eq_true_eq, decide_eq_true_eq] at h
  omega
theorem cf_bool_c {x : Int32} (h : (x == 0 || x == 1) = true) : x = 0 ∨ x = 1 := by
  rw [Bool.or_eq_true, beq_iff_eq, beq_iff_eq] at h
  exact h
theorem cf_bool_n {x : Int32} (h : (x == 0 || x == 1) = true) : narrow .boolean (.int x) = .int x := by
  rcases cf_bool_c h with rfl | rfl <;> rfl
theorem cf_bool_f {x : Int32} (h : (x == 0 || x == 1) = true) : fits .boolean (.int x) = true := by
  rcases cf_bool_c h with rfl | rfl <;> rfl
abbrev cf_Z : Type := Program × Env × State × MethodId × Array Value × List Frame × Method × Code × Nat × Nat × (State → Prop) × va_G × ClassId × (Nat → Nat) × (Nat → Prop)
def cf_R (l : Launch) (R : Room) (nL : Nat) (Z : cf_Z) (a : cf_Cfg) : Prop := match Z with
  | (p, e, s, m, args, below, meth, c, cells, slots, Q, D, cA, ad, A) => ∀ (H : Heap) (locs : List Loc) (ls : Array Slot), cf_L ad ls nL a.2.1 → va_P D cf_cls (cf_ws cA ad a.2.2.2) H → va_S A s.heap H locs → W p l e R s m args below meth c H locs cells slots Q (F0 m a.1 ls (a.2.2.1.map (cf_v ad)))
def cf_C (R : Room) (cc : ByteArray) (nL : Nat) (own : String) (Z : cf_Z) : Prop := match Z with
  | (p, _, s, m, _, _, _, c, cells, slots, _, D, cA, ad, A) => p.tables.exec = Jvm.exec ∧ c.code = cc ∧ c.maxLocals = nL ∧ s.vm.findClass own = some m.cls ∧ cf_B s ∧ va_K D cf_cls [(cA, .int)] s ∧ cf_D A ad ∧ cells ≤ R.cells ∧ slots ≤ R.slots
def cf_Fin (l : Launch) (R : Room) (cc : ByteArray) (Z : cf_Z) (q : cf_Rs) : Prop := match Z with
  | (p, e, s, m, args, below, meth, c, cells, slots, Q, D, cA, ad, A) => match q.1 with
    | some (.inl v) => ∀ (H : Heap) (locs : List Loc) (ls : Array Slot) (pc : Nat), decode cc pc = .ok (.ireturn, 1) → va_P D cf_cls (cf_ws cA ad q.2) H → va_S A s.heap H locs → W p l e R s m args below meth c H locs cells slots Q (F0 m pc ls [.int v])
    | some (.inr _) => False
    | none => ∀ (H : Heap) (locs : List Loc) (ls : Array Slot) (pc : Nat), decode cc pc = .ok (.return_, 1) → va_P D cf_cls (cf_ws cA ad q.2) H → va_S A s.heap H locs → W p l e R s m args below meth c H locs cells slots Q (F0 m pc ls [])
def cf_S (l : Launch) (R : Room) (cc : ByteArray) (nL : Nat) (own : String) (pc : Nat) (f : cf_Rw) : Prop := ∀ Z : cf_Z, cf_C R cc nL own Z → ∀ (L : List (Option cf_AV)) (st : List cf_AV) (w : cf_Wd), (∀ b : cf_Cfg, f L st w = some (.inl b) → cf_R l R nL Z b → cf_R l R nL Z (pc, L, st, w)) ∧ (∀ q : cf_Rs, f L st w = some (.inr q) → cf_Fin l R cc Z q → cf_R l R nL Z (pc, L, st, w))
section Rows
variable {l : Launch} {R : Room} {cc : ByteArray} {nL : Nat} {own : String} {pc : Nat}
theorem cf_S_stuck : cf_S l R cc nL own pc cf_stuck := fun Z hC L st w => ⟨fun b h _ => (nomatch (show (none : Option (cf_Cfg ⊕ cf_Rs)) = some _ from h)), fun q h _ => (nomatch (show (none : Option (cf_Cfg ⊕ cf_Rs)) = some _ from h))⟩
theorem cf_S_iconst {n : Int} {x : Int32} (hd : decode cc pc = .ok (.iconst n, 1)) (hv : Int32.ofInt n = x) : cf_S l R cc nL own pc (cf_const x (pc + 1)) := by
  intro Z hC L st w
  obtain ⟨p, e, s, m, args, below, meth, c, cells, slots, Q, D, cA, ad, A⟩ := Z
  obtain ⟨hx, hb, hml, hown, hB, hK, hD, hc1, hc2⟩ := hC
  refine ⟨fun b h k => ?_, fun q h => ?_⟩
  · obtain rfl := Sum.inl.inj (Option.some.inj h)
    intro H locs ls hL hP hS
    exact lv_iconst hx hb hd hv (k H locs ls hL hP hS)
  · exact nomatch (Option.some.inj h)
theorem cf_S_bipush {n : Int} {x : Int32} (hd : decode cc pc = .ok (.bipush n, 2)) (hv : (Int8.ofInt n).toInt32 = x) : cf_S l R cc nL own pc (cf_const x (pc + 2)) := by
  intro Z hC L st w
  obtain ⟨p, e, s, m, args, below, meth, c, cells, slots, Q, D, cA, ad, A⟩ := Z
  obtain ⟨hx, hb, hml, hown, hB, hK, hD, hc1, hc2⟩ := hC
  refine ⟨fun b h k => ?_, fun q h => ?_⟩
  · obtain rfl := Sum.inl.inj (Option.some.inj h)
    intro H locs ls hL hP hS
    exact lv_bipush hx hb hd hv (k H locs ls hL hP hS)
  · exact nomatch (Option.some.inj h)
theorem cf_S_sipush {n : Int} {x : Int32} (hd : decode cc pc = .ok (.sipush n, 3)) (hv : (Int16.ofInt n).toInt32 = x) : cf_S l R cc nL own pc (cf_const x (pc + 3)) := by
  intro Z hC L st w
  obtain ⟨p, e, s, m, args, below, meth, c, cells, slots, Q, D, cA, ad, A⟩ := Z
  obtain ⟨hx, hb, hml, hown, hB, hK, hD, hc1, hc2⟩ := hC
  refine ⟨fun b h k => ?_, fun q h => ?_⟩
  · obtain rfl := Sum.inl.inj (Option.some.inj h)
    intro H locs ls hL hP hS
    exact lv_sipush hx hb hd hv (k H locs ls hL hP hS)
  · exact nomatch (Option.some.inj h)
theorem cf_S_ldcw {i : Nat} {x : Int32} (hd : decode cc pc = .ok (.ldc_w i, 3)) (hw : Cond.constant own i x ∈ lw_tbl) : cf_S l R cc nL own pc (cf_const x (pc + 3)) := by
  intro Z hC L st w
  obtain ⟨p, e, s, m, args, below, meth, c, cells, slots, Q, D, cA, ad, A⟩ := Z
  obtain ⟨hx, hb, hml, hown, hB, hK, hD, hc1, hc2⟩ := hC
  refine ⟨fun b h k => ?_, fun q h => ?_⟩
  · obtain rfl := Sum.inl.inj (Option.some.inj h)
    intro H locs ls hL hP hS
    exact lv_ldcw hx hb hown (hB.use hw rfl args) hd (k H locs ls hL hP hS)
  · exact nomatch (Option.some.inj h)
theorem cf_S_iload_n {i : Nat} {j : Fin 4} (hd : decode cc pc = .ok (.iload_n j, 1)) (hi : (j : Nat) = i) : cf_S l R cc nL own pc (cf_iload i (pc + 1)) := by
  intro Z hC L st w
  obtain ⟨p, e, s, m, args, below, meth, c, cells, slots, Q, D, cA, ad, A⟩ := Z
  obtain ⟨hx, hb, hml, hown, hB, hK, hD, hc1, hc2⟩ := hC
  refine ⟨fun b h k => ?_, fun q h => ?_⟩
  · unfold cf_iload at h
    split at h
    · rename_i x hl
      obtain rfl := Sum.inl.inj (Option.some.inj h)
      intro H locs ls hL hP hS
      exact lv_iload_n hx hb hd hi (hL.at hl) (k H locs ls hL hP hS)
    · cases h
  · unfold cf_iload at h
    split at h <;> cases h
theorem cf_S_iload {i : Nat} (hd : decode cc pc = .ok (.iload i, 2)) : cf_S l R cc nL own pc (cf_iload i (pc + 2)) := by
  intro Z hC L st w
  obtain ⟨p, e, s, m, args, below, meth, c, cells, slots, Q, D, cA, ad, A⟩ := Z
  obtain ⟨hx, hb, hml, hown, hB, hK, hD, hc1, hc2⟩ := hC
  refine ⟨fun b h k => ?_, fun q h => ?_⟩
  · unfold cf_iload at h
    split at h
    · rename_i x hl
      obtain rfl := Sum.inl.inj (Option.some.inj h)
      intro H locs ls hL hP hS
      exact lv_iload hx hb hd (hL.at hl) (k H locs ls hL hP hS)
    · cases h
  · unfold cf_iload at h
    split at h <;> cases h
theorem cf_S_aload_n {i : Nat} {j : Fin 4} (hd : decode cc pc = .ok (.aload_n j, 1)) (hi : (j : Nat) = i) : cf_S l R cc nL own pc (cf_aload i (pc + 1)) := by
  intro Z hC L st w
  obtain ⟨p, e, s, m, args, below, meth, c, cells, slots, Q, D, cA, ad, A⟩ := Z
  obtain ⟨hx, hb, hml, hown, hB, hK, hD, hc1, hc2⟩ := hC
  refine ⟨fun b h k => ?_, fun q h => ?_⟩
  · unfold cf_aload at h
    split at h
    · rename_i x hl
      obtain rfl := Sum.inl.inj (Option.some.inj h)
      intro H locs ls hL hP hS
      exact lv_aload_n hx hb hd hi (hL.at hl) (k H locs ls hL hP hS)
    · cases h
  · unfold cf_aload at h
    split at h <;> cases h
theorem cf_S_istore_n {i : Nat} {j : Fin 4} (hd : decode cc pc = .ok (.istore_n j, 1)) (hi : (j : Nat) = i) (hn : i < nL) : cf_S l R cc nL own pc (cf_istore i (pc + 1)) := by
  intro Z hC L st w
  obtain ⟨p, e, s, m, args, below, meth, c, cells, slots, Q, D, cA, ad, A⟩ := Z
  obtain ⟨hx, hb, hml, hown, hB, hK, hD, hc1, hc2⟩ := hC
  refine ⟨fun b h k => ?_, fun q h => ?_⟩
  · unfold cf_istore at h
    split at h
    · rename_i x r
      obtain rfl := Sum.inl.inj (Option.some.inj h)
      intro H locs ls hL hP hS
      exact lv_istore_n hx hb hd hi hL hn rfl (fun ls' h9 => k H locs ls' (cf_L.put (v := .inl x) h9) hP hS)
    · cases h
  · unfold cf_istore at h
    split at h <;> cases h
theorem cf_S_istore {i : Nat} (hd : decode cc pc = .ok (.istore i, 2)) (hn : i < nL) : cf_S l R cc nL own pc (cf_istore i (pc + 2)) := by
  intro Z hC L st w
  obtain ⟨p, e, s, m, args, below, meth, c, cells, slots, Q, D, cA, ad, A⟩ := Z
  obtain ⟨hx, hb, hml, hown, hB, hK, hD, hc1, hc2⟩ := hC
  refine ⟨fun b h k => ?_, fun q h => ?_⟩
  · unfold cf_istore at h
    split at h
    · rename_i x r
      obtain rfl := Sum.inl.inj (Option.some.inj h)
      intro H locs ls hL hP hS
      exact lv_istore hx hb hd hL hn rfl (fun ls' h9 => k H locs ls' (cf_L.put (v := .inl x) h9) hP hS)
    · cases h
  · unfold cf_istore at h
    split at h <;> cases h
theorem cf_S_iinc {i : Nat} {n : Int} {x : Int32} (hd : decode cc pc = .ok (.iinc i n, 3)) (hv : Int32.ofInt n = x) (hn : i < nL) : cf_S l R cc nL own pc (cf_iinc i x (pc + 3)) := by
  intro Z hC L st w
  obtain ⟨p, e, s, m, args, below, meth, c, cells, slots, Q, D, cA, ad, A⟩ := Z
  obtain ⟨hx, hb, hml, hown, hB, hK, hD, hc1, hc2⟩ := hC
  refine ⟨fun b h k => ?_, fun q h => ?_⟩
  · unfold cf_iinc at h
    split at h
    · rename_i y hl
      obtain rfl := Sum.inl.inj (Option.some.inj h)
      intro H locs ls hL hP hS
      have hm := cf_lv_mem (ad := ad) L 0 i hl
      rw [Nat.zero_add] at hm
      obtain ⟨j, hj⟩ := List.getElem?_of_mem hm
      exact lv_iinc hx hb hd hL hj (v := y + x) (by rw [hv]) hn rfl (fun ls' h9 => k H locs ls' (cf_L.put (v := .inl (y + x)) h9) hP hS)
    · cases h
  · unfold cf_iinc at h
    split at h <;> cases h
theorem cf_S_iadd (hd : decode cc pc = .ok (.iadd, 1)) : cf_S l R cc nL own pc (cf_bin (fun x y => x + y) (pc + 1)) := by
  intro Z hC L st w
  obtain ⟨p, e, s, m, args, below, meth, c, cells, slots, Q, D, cA, ad, A⟩ := Z
  obtain ⟨hx, hb, hml, hown, hB, hK, hD, hc1, hc2⟩ := hC
  refine ⟨fun b h k => ?_, fun q h => ?_⟩
  · unfold cf_bin at h
    split at h
    · rename_i y x r
      obtain rfl := Sum.inl.inj (Option.some.inj h)
      intro H locs ls hL hP hS
      exact lv_iadd hx hb hd (k H locs ls hL hP hS)
    · cases h
  · unfold cf_bin at h
    split at h <;> cases h
theorem cf_S_isub (hd : decode cc pc = .ok (.isub, 1)) : cf_S l R cc nL own pc (cf_bin (fun x y => x - y) (pc + 1)) := by
  intro Z hC L st w
  obtain ⟨p, e, s, m, args, below, meth, c, cells, slots, Q, D, cA, ad, A⟩ := Z
  obtain ⟨hx, hb, hml, hown, hB, hK, hD, hc1, hc2⟩ := hC
  refine ⟨fun b h k => ?_, fun q h => ?_⟩
  · unfold cf_bin at h
    split at h
    · rename_i y x r
      obtain rfl := Sum.inl.inj (Option.some.inj h)
      intro H locs ls hL hP hS
      exact lv_isub hx hb hd (k H locs ls hL hP hS)
    · cases h
  · unfold cf_bin at h
    split at h <;> cases h
theorem cf_S_imul (hd : decode cc pc = .ok (.imul, 1)) : cf_S l R cc nL own pc (cf_bin (fun x y => x * y) (pc + 1)) := by
  intro Z hC L st w
  obtain ⟨p, e, s, m, args, below, meth, c, cells, slots, Q, D, cA, ad, A⟩ := Z
  obtain ⟨hx, hb, hml, hown, hB, hK, hD, hc1, hc2⟩ := hC
  refine ⟨fun b h k => ?_, fun q h => ?_⟩
  · unfold cf_bin at h
    split at h
    · rename_i y x r
      obtain rfl := Sum.inl.inj (Option.some.inj h)
      intro H locs ls hL hP hS
      exact lv_imul hx hb hd (k H locs ls hL hP hS)
    · cases h
  · unfold cf_bin at h
    split at h <;> cases h
theorem cf_S_iand (hd : decode cc pc = .ok (.iand, 1)) : cf_S l R cc nL own pc (cf_bin (fun x y => x &&& y) (pc + 1)) := by
  intro Z hC L st w
  obtain ⟨p, e, s, m, args, below, meth, c, cells, slots, Q, D, cA, ad, A⟩ := Z
  obtain ⟨hx, hb, hml, hown, hB, hK, hD, hc1, hc2⟩ := hC
  refine ⟨fun b h k => ?_, fun q h => ?_⟩
  · unfold cf_bin at h
    split at h
    · rename_i y x r
      obtain rfl := Sum.inl.inj (Option.some.inj h)
      intro H locs ls hL hP hS
      exact lv_iand hx hb hd (k H locs ls hL hP hS)
    · cases h
  · unfold cf_bin at h
    split at h <;> cases h
theorem cf_S_ior (hd : decode cc pc = .ok (.ior, 1)) : cf_S l R cc nL own pc (cf_bin (fun x y => x ||| y) (pc + 1)) := by
  intro Z hC L st w
  obtain ⟨p, e, s, m, args, below, meth, c, cells, slots, Q, D, cA, ad, A⟩ := Z
  obtain ⟨hx, hb, hml, hown, hB, hK, hD, hc1, hc2⟩ := hC
  refine ⟨fun b h k => ?_, fun q h => ?_⟩
  · unfold cf_bin at h
    split at h
    · rename_i y x r
      obtain rfl := Sum.inl.inj (Option.some.inj h)
      intro H locs ls hL hP hS
      exact lv_ior hx hb hd (k H locs ls hL hP hS)
    · cases h
  · unfold cf_bin at h
    split at h <;> cases h
theorem cf_S_ixor (hd : decode cc pc = .ok (.ixor, 1)) : cf_S l R cc nL own pc (cf_bin (fun x y => x ^^^ y) (pc + 1)) := by
  intro Z hC L st w
  obtain ⟨p, e, s, m, args, below, meth, c, cells, slots, Q, D, cA, ad, A⟩ := Z
  obtain ⟨hx, hb, hml, hown, hB, hK, hD, hc1, hc2⟩ := hC
  refine ⟨fun b h k => ?_, fun q h => ?_⟩
  · unfold cf_bin at h
    split at h
    · rename_i y x r
      obtain rfl := Sum.inl.inj (Option.some.inj h)
      intro H locs ls hL hP hS
      exact lv_ixor hx hb hd (k H locs ls hL hP hS)
    · cases h
  · unfold cf_bin at h
    split at h <;> cases h
theorem cf_S_ishl (hd : decode cc pc = .ok (.ishl, 1)) : cf_S l R cc nL own pc (cf_bin (fun x y => x <<< (y &&& 31)) (pc + 1)) := by
  intro Z hC L st w
  obtain ⟨p, e, s, m, args, below, meth, c, cells, slots, Q, D, cA, ad, A⟩ := Z
  obtain ⟨hx, hb, hml, hown, hB, hK, hD, hc1, hc2⟩ := hC
  refine ⟨fun b h k => ?_, fun q h => ?_⟩
  · unfold cf_bin at h
    split at h
    · rename_i y x r
      obtain rfl := Sum.inl.inj (Option.some.inj h)
      intro H locs ls hL hP hS
      exact lv_ishl hx hb hd (k H locs ls hL hP hS)
    · cases h
  · unfold cf_bin at h
    split at h <;> cases h
theorem cf_S_ishr (hd : decode cc pc = .ok (.ishr, 1)) : cf_S l R cc nL own pc (cf_bin (fun x y => x >>> (y &&& 31)) (pc + 1)) := by
  intro Z hC L st w
  obtain ⟨p, e, s, m, args, below, meth, c, cells, slots, Q, D, cA, ad, A⟩ := Z
  obtain ⟨hx, hb, hml, hown, hB, hK, hD, hc1, hc2⟩ := hC
  refine ⟨fun b h k => ?_, fun q h => ?_⟩
  · unfold cf_bin at h
    split at h
    · rename_i y x r
      obtain rfl := Sum.inl.inj (Option.some.inj h)
      intro H locs ls hL hP hS
      exact lv_ishr hx hb hd (k H locs ls hL hP hS)
    · cases h
  · unfold cf_bin at h
    split at h <;> cases h
theorem cf_S_iushr (hd : decode cc pc = .ok (.iushr, 1)) : cf_S l R cc nL own pc (cf_bin (fun x y => (x.toUInt32 >>> (y.toUInt32 &&& Int32.toUInt32 31)).toInt32) (pc + 1)) := by
  intro Z hC L st w
  obtain ⟨p, e, s, m, args, below, meth, c, cells, slots, Q, D, cA, ad, A⟩ := Z
  obtain ⟨hx, hb, hml, hown, hB, hK, hD, hc1, hc2⟩ := hC
  refine ⟨fun b h k => ?_, fun q h => ?_⟩
  · unfold cf_bin at h
    split at h
    · rename_i y x r
      obtain rfl := Sum.inl.inj (Option.some.inj h)
      intro H locs ls hL hP hS
      exact lv_iushr hx hb hd rfl (k H locs ls hL hP hS)
    · cases h
  · unfold cf_bin at h
    split at h <;> cases h
theorem cf_S_idiv (hd : decode cc pc = .ok (.idiv, 1)) : cf_S l R cc nL own pc (cf_div (pc + 1)) := by
  intro Z hC L st w
  obtain ⟨p, e, s, m, args, below, meth, c, cells, slots, Q, D, cA, ad, A⟩ := Z
  obtain ⟨hx, hb, hml, hown, hB, hK, hD, hc1, hc2⟩ := hC
  refine ⟨fun b h k => ?_, fun q h => ?_⟩
  · unfold cf_div at h
    split at h
    · rename_i y x r
      by_cases hy : y = 0
      · subst hy
        exact nomatch h
      · have hg : (!(y == 0)) = true := by simp [hy]
        rw [hg] at h
        obtain rfl := Sum.inl.inj (Option.some.inj h)
        intro H locs ls hL hP hS
        exact lv_idiv hx hb hd hy (k H locs ls hL hP hS)
    · cases h
  · unfold cf_div at h
    split at h
    · rename_i y x r
      cases hg : (!(y == 0)) <;> rw [hg] at h <;> cases h
    · cases h
theorem cf_S_irem (hd : decode cc pc = .ok (.irem, 1)) : cf_S l R cc nL own pc (cf_rem (pc + 1)) := by
  intro Z hC L st w
  obtain ⟨p, e, s, m, args, below, meth, c, cells, slots, Q, D, cA, ad, A⟩ := Z
  obtain ⟨hx, hb, hml, hown, hB, hK, hD, hc1, hc2⟩ := hC
  refine ⟨fun b h k => ?_, fun q h => ?_⟩
  · unfold cf_rem at h
    split at h
    · rename_i y x r
      by_cases hy : y = 0
      · subst hy
        exact nomatch h
      · have hg : (!(y == 0)) = true := by simp [hy]
        rw [hg] at h
        obtain rfl := Sum.inl.inj (Option.some.inj h)
        intro H locs ls hL hP hS
        exact lv_irem hx hb hd hy (k H locs ls hL hP hS)
    · cases h
  · unfold cf_rem at h
    split at h
    · rename_i y x r
      cases hg : (!(y == 0)) <;> rw [hg] at h <;> cases h
    · cases h
theorem cf_S_dup (hd : decode cc pc = .ok (.dup, 1)) : cf_S l R cc nL own pc (cf_dup (pc + 1)) := by
  intro Z hC L st w
  obtain ⟨p, e, s, m, args, below, meth, c, cells, slots, Q, D, cA, ad, A⟩ := Z
  obtain ⟨hx, hb, hml, hown, hB, hK, hD, hc1, hc2⟩ := hC
  refine ⟨fun b h k => ?_, fun q h => ?_⟩
  · unfold cf_dup at h
    split at h
    · rename_i v r
      obtain rfl := Sum.inl.inj (Option.some.inj h)
      intro H locs ls hL hP hS
      exact lv_dup hx hb hd (cf_v_cat ad v) (k H locs ls hL hP hS)
    · cases h
  · unfold cf_dup at h
    split at h <;> cases h
theorem cf_S_dup2 (hd : decode cc pc = .ok (.dup2, 1)) : cf_S l R cc nL own pc (cf_dup2 (pc + 1)) := by
  intro Z hC L st w
  obtain ⟨p, e, s, m, args, below, meth, c, cells, slots, Q, D, cA, ad, A⟩ := Z
  obtain ⟨hx, hb, hml, hown, hB, hK, hD, hc1, hc2⟩ := hC
  refine ⟨fun b h k => ?_, fun q h => ?_⟩
  · unfold cf_dup2 at h
    split at h
    · rename_i v u r
      obtain rfl := Sum.inl.inj (Option.some.inj h)
      intro H locs ls hL hP hS
      exact lv_dup2_11 hx hb hd (cf_v_cat ad v) (cf_v_cat ad u) (k H locs ls hL hP hS)
    · cases h
  · unfold cf_dup2 at h
    split at h <;> cases h
theorem cf_S_goto {off : Int} {t : Nat} (hd : decode cc pc = .ok (.goto off, 3)) (ht : (pc : Int) + off = (t : Int)) : cf_S l R cc nL own pc (cf_goto t) := by
  intro Z hC L st w
  obtain ⟨p, e, s, m, args, below, meth, c, cells, slots, Q, D, cA, ad, A⟩ := Z
  obtain ⟨hx, hb, hml, hown, hB, hK, hD, hc1, hc2⟩ := hC
  refine ⟨fun b h k => ?_, fun q h => ?_⟩
  · obtain rfl := Sum.inl.inj (Option.some.inj h)
    intro H locs ls hL hP hS
    exact lv_goto hx hb hd ht (k H locs ls hL hP hS)
  · exact nomatch (Option.some.inj h)
theorem cf_S_ifeq {off : Int} {t : Nat} (hd : decode cc pc = .ok (.ifCond .eq off, 3)) (ht : (pc : Int) + off = (t : Int)) : cf_S l R cc nL own pc (cf_ifeq t (pc + 3)) := by
  intro Z hC L st w
  obtain ⟨p, e, s, m, args, below, meth, c, cells, slots, Q, D, cA, ad, A⟩ := Z
  obtain ⟨hx, hb, hml, hown, hB, hK, hD, hc1, hc2⟩ := hC
  refine ⟨fun b h k => ?_, fun q h => ?_⟩
  · unfold cf_ifeq at h
    split at h
    · rename_i x r
      obtain rfl := Sum.inl.inj (Option.some.inj h)
      intro H locs ls hL hP hS
      exact lv_if_eq hx hb hd ht (fun hq => by rw [if_pos hq] at k; exact (k H locs ls hL hP hS)) (fun hq => by rw [if_neg hq] at k; exact (k H locs ls hL hP hS))
    · cases h
  · unfold cf_ifeq at h
    split at h <;> cases h
theorem cf_S_ifne {off : Int} {t : Nat} (hd : decode cc pc = .ok (.ifCond .ne off, 3)) (ht : (pc : Int) + off = (t : Int)) : cf_S l R cc nL own pc (cf_ifne t (pc + 3)) := by
  intro Z hC L st w
  obtain ⟨p, e, s, m, args, below, meth, c, cells, slots, Q, D, cA, ad, A⟩ := Z
  obtain ⟨hx, hb, hml, hown, hB, hK, hD, hc1, hc2⟩ := hC
  refine ⟨fun b h k => ?_, fun q h => ?_⟩
  · unfold cf_ifne at h
    split at h
    · rename_i x r
      obtain rfl := Sum.inl.inj (Option.some.inj h)
      intro H locs ls hL hP hS
      exact lv_if_ne hx hb hd ht (fun hq => by rw [if_pos hq] at k; exact (k H locs ls hL hP hS)) (fun hq => by rw [if_neg (fun z => z hq)] at k; exact (k H locs ls hL hP hS))
    · cases h
  · unfold cf_ifne at h
    split at h <;> cases h
theorem cf_S_iflt {off : Int} {t : Nat} (hd : decode cc pc = .ok (.ifCond .lt off, 3)) (ht : (pc : Int) + off = (t : Int)) : cf_S l R cc nL own pc (cf_iflt t (pc + 3)) := by
  intro Z hC L st w
  obtain ⟨p, e, s, m, args, below, meth, c, cells, slots, Q, D, cA, ad, A⟩ := Z
  obtain ⟨hx, hb, hml, hown, hB, hK, hD, hc1, hc2⟩ := hC
  refine ⟨fun b h k => ?_, fun q h => ?_⟩
  · unfold cf_iflt at h
    split at h
    · rename_i x r
      obtain rfl := Sum.inl.inj (Option.some.inj h)
      intro H locs ls hL hP hS
      exact lv_if_lt hx hb hd ht (fun hq => by rw [if_pos hq] at k; exact (k H locs ls hL hP hS)) (fun hq => by rw [if_neg hq] at k; exact (k H locs ls hL hP hS))
    · cases h
  · unfold cf_iflt at h
    split at h <;> cases h
theorem cf_S_ifge {off : Int} {t : Nat} (hd : decode cc pc = .ok (.ifCond .ge off, 3)) (ht : (pc : Int) + off = (t : Int)) : cf_S l R cc nL own pc (cf_ifge t (pc + 3)) := by
  intro Z hC L st w
  obtain ⟨p, e, s, m, args, below, meth, c, cells, slots, Q, D, cA, ad, A⟩ := Z
  obtain ⟨hx, hb, hml, hown, hB, hK, hD, hc1, hc2⟩ := hC
  refine ⟨fun b h k => ?_, fun q h => ?_⟩
  · unfold cf_ifge at h
    split at h
    · rename_i x r
      obtain rfl := Sum.inl.inj (Option.some.inj h)
      intro H locs ls hL hP hS
      exact lv_if_ge hx hb hd ht (fun hq => by rw [if_pos hq] at k; exact (k H locs ls hL hP hS)) (fun hq => by rw [if_neg hq] at k; exact (k H locs ls hL hP hS))
    · cases h
  · unfold cf_ifge at h
    split at h <;> cases h
theorem cf_S_ifgt {off : Int} {t : Nat} (hd : decode cc pc = .ok (.ifCond .gt off, 3)) (ht : (pc : Int) + off = (t : Int)) : cf_S l R cc nL own pc (cf_ifgt t (pc + 3)) := by
  intro Z hC L st w
  obtain ⟨p, e, s, m, args, below, meth, c, cells, slots, Q, D, cA, ad, A⟩ := Z
  obtain ⟨hx, hb, hml, hown, hB, hK, hD, hc1, hc2⟩ := hC
  refine ⟨fun b h k => ?_, fun q h => ?_⟩
  · unfold cf_ifgt at h
    split at h
    · rename_i x r
      obtain rfl := Sum.inl.inj (Option.some.inj h)
      intro H locs ls hL hP hS
      exact lv_if_gt hx hb hd ht (fun hq => by rw [if_pos hq] at k; exact (k H locs ls hL hP hS)) (fun hq => by rw [if_neg hq] at k; exact (k H locs ls hL hP hS))
    · cases h
  · unfold cf_ifgt at h
    split at h <;> cases h
theorem cf_S_ifle {off : Int} {t : Nat} (hd : decode cc pc = .ok (.ifCond .le off, 3)) (ht : (pc : Int) + off = (t : Int)) : cf_S l R cc nL own pc (cf_ifle t (pc + 3)) := by
  intro Z hC L st w
  obtain ⟨p, e, s, m, args, below, meth, c, cells, slots, Q, D, cA, ad, A⟩ := Z
  obtain ⟨hx, hb, hml, hown, hB, hK, hD, hc1, hc2⟩ := hC
  refine ⟨fun b h k => ?_, fun q h => ?_⟩
  · unfold cf_ifle at h
    split at h
    · rename_i x r
      obtain rfl := Sum.inl.inj (Option.some.inj h)
      intro H locs ls hL hP hS
      exact lv_if_le hx hb hd ht (fun hq => by rw [if_pos hq] at k; exact (k H locs ls hL hP hS)) (fun hq => by rw [if_neg hq] at k; exact (k H locs ls hL hP hS))
    · cases h
  · unfold cf_ifle at h
    split at h <;> cases h
theorem cf_S_iceq {off : Int} {t : Nat} (hd : decode cc pc = .ok (.if_icmp .eq off, 3)) (ht : (pc : Int) + off = (t : Int)) : cf_S l R cc nL own pc (cf_iceq t (pc + 3)) := by
  intro Z hC L st w
  obtain ⟨p, e, s, m, args, below, meth, c, cells, slots, Q, D, cA, ad, A⟩ := Z
  obtain ⟨hx, hb, hml, hown, hB, hK, hD, hc1, hc2⟩ := hC
  refine ⟨fun b h k => ?_, fun q h => ?_⟩
  · unfold cf_iceq at h
    split at h
    · rename_i y x r
      obtain rfl := Sum.inl.inj (Option.some.inj h)
      intro H locs ls hL hP hS
      exact lv_icmp_eq hx hb hd ht (fun hq => by rw [if_pos hq] at k; exact (k H locs ls hL hP hS)) (fun hq => by rw [if_neg hq] at k; exact (k H locs ls hL hP hS))
    · cases h
  · unfold cf_iceq at h
    split at h <;> cases h
theorem cf_S_icne {off : Int} {t : Nat} (hd : decode cc pc = .ok (.if_icmp .ne off, 3)) (ht : (pc : Int) + off = (t : Int)) : cf_S l R cc nL own pc (cf_icne t (pc + 3)) := by
  intro Z hC L st w
  obtain ⟨p, e, s, m, args, below, meth, c, cells, slots, Q, D, cA, ad, A⟩ := Z
  obtain ⟨hx, hb, hml, hown, hB, hK, hD, hc1, hc2⟩ := hC
  refine ⟨fun b h k => ?_, fun q h => ?_⟩
  · unfold cf_icne at h
    split at h
    · rename_i y x r
      obtain rfl := Sum.inl.inj (Option.some.inj h)
      intro H locs ls hL hP hS
      exact lv_icmp_ne hx hb hd ht (fun hq => by rw [if_pos hq] at k; exact (k H locs ls hL hP hS)) (fun hq => by rw [if_neg (fun z => z hq)] at k; exact (k H locs ls hL hP hS))
    · cases h
  · unfold cf_icne at h
    split at h <;> cases h
theorem cf_S_iclt {off : Int} {t : Nat} (hd : decode cc pc = .ok (.if_icmp .lt off, 3)) (ht : (pc : Int) + off = (t : Int)) : cf_S l R cc nL own pc (cf_iclt t (pc + 3)) := by
  intro Z hC L st w
  obtain ⟨p, e, s, m, args, below, meth, c, cells, slots, Q, D, cA, ad, A⟩ := Z
  obtain ⟨hx, hb, hml, hown, hB, hK, hD, hc1, hc2⟩ := hC
  refine ⟨fun b h k => ?_, fun q h => ?_⟩
  · unfold cf_iclt at h
    split at h
    · rename_i y x r
      obtain rfl := Sum.inl.inj (Option.some.inj h)
      intro H locs ls hL hP hS
      exact lv_icmp_lt hx hb hd ht (fun hq => by rw [if_pos hq] at k; exact (k H locs ls hL hP hS)) (fun hq => by rw [if_neg hq] at k; exact (k H locs ls hL hP hS))
    · cases h
  · unfold cf_iclt at h
    split at h <;> cases h
theorem cf_S_icge {off : Int} {t : Nat} (hd : decode cc pc = .ok (.if_icmp .ge off, 3)) (ht : (pc : Int) + off = (t : Int)) : cf_S l R cc nL own pc (cf_icge t (pc + 3)) := by
  intro Z hC L st w
  obtain ⟨p, e, s, m, args, below, meth, c, cells, slots, Q, D, cA, ad, A⟩ := Z
  obtain ⟨hx, hb, hml, hown, hB, hK, hD, hc1, hc2⟩ := hC
  refine ⟨fun b h k => ?_, fun q h => ?_⟩
  · unfold cf_icge at h
    split at h
    · rename_i y x r
      obtain rfl := Sum.inl.inj (Option.some.inj h)
      intro H locs ls hL hP hS
      exact lv_icmp_ge hx hb hd ht (fun hq => by rw [if_pos hq] at k; exact (k H locs ls hL hP hS)) (fun hq => by rw [if_neg hq] at k; exact (k H locs ls hL hP hS))
    · cases h
  · unfold cf_icge at h
    split at h <;> cases h
theorem cf_S_icgt {off : Int} {t : Nat} (hd : decode cc pc = .ok (.if_icmp .gt off, 3)) (ht : (pc : Int) + off = (t : Int)) : cf_S l R cc nL own pc (cf_icgt t (pc + 3)) := by
  intro Z hC L st w
  obtain ⟨p, e, s, m, args, below, meth, c, cells, slots, Q, D, cA, ad, A⟩ := Z
  obtain ⟨hx, hb, hml, hown, hB, hK, hD, hc1, hc2⟩ := hC
  refine ⟨fun b h k => ?_, fun q h => ?_⟩
  · unfold cf_icgt at h
    split at h
    · rename_i y x r
      obtain rfl := Sum.inl.inj (Option.some.inj h)
      intro H locs ls hL hP hS
      exact lv_icmp_gt hx hb hd ht (fun hq => by rw [if_pos hq] at k; exact (k H locs ls hL hP hS)) (fun hq => by rw [if_neg hq] at k; exact (k H locs ls hL hP hS))
    · cases h
  · unfold cf_icgt at h
    split at h <;> cases h
theorem cf_S_icle {off : Int} {t : Nat} (hd : decode cc pc = .ok (.if_icmp .le off, 3)) (ht : (pc : Int) + off = (t : Int)) : cf_S l R cc nL own pc (cf_icle t (pc + 3)) := by
  intro Z hC L st w
  obtain ⟨p, e, s, m, args, below, meth, c, cells, slots, Q, D, cA, ad, A⟩ := Z
  obtain ⟨hx, hb, hml, hown, hB, hK, hD, hc1, hc2⟩ := hC
  refine ⟨fun b h k => ?_, fun q h => ?_⟩
  · unfold cf_icle at h
    split at h
    · rename_i y x r
      obtain rfl := Sum.inl.inj (Option.some.inj h)
      intro H locs ls hL hP hS
      exact lv_icmp_le hx hb hd ht (fun hq => by rw [if_pos hq] at k; exact (k H locs ls hL hP hS)) (fun hq => by rw [if_neg hq] at k; exact (k H locs ls hL hP hS))
    · cases h
  · unfold cf_icle at h
    split at h <;> cases h
theorem cf_S_iret (hd : decode cc pc = .ok (.ireturn, 1)) : cf_S l R cc nL own pc cf_iret := by
  intro Z hC L st w
  obtain ⟨p, e, s, m, args, below, meth, c, cells, slots, Q, D, cA, ad, A⟩ := Z
  obtain ⟨hx, hb, hml, hown, hB, hK, hD, hc1, hc2⟩ := hC
  refine ⟨fun b h k => ?_, fun q h k => ?_⟩
  · unfold cf_iret at h
    split at h <;> cases h
  · unfold cf_iret at h
    split at h
    · rename_i x
      obtain rfl := Sum.inr.inj (Option.some.inj h)
      intro H locs ls hL hP hS
      exact k H locs ls pc hd hP hS
    · cases h
theorem cf_S_vret (hd : decode cc pc = .ok (.return_, 1)) : cf_S l R cc nL own pc cf_vret := by
  intro Z hC L st w
  obtain ⟨p, e, s, m, args, below, meth, c, cells, slots, Q, D, cA, ad, A⟩ := Z
  obtain ⟨hx, hb, hml, hown, hB, hK, hD, hc1, hc2⟩ := hC
  refine ⟨fun b h k => ?_, fun q h k => ?_⟩
  · unfold cf_vret at h
    split at h <;> cases h
  · unfold cf_vret at h
    split at h
    · obtain rfl := Sum.inr.inj (Option.some.inj h)
      intro H locs ls hL hP hS
      exact k H locs ls pc hd hP hS
    · cases h
theorem cf_S_iald (hd : decode cc pc = .ok (.iaload, 1)) : cf_S l R cc nL own pc (cf_iald (pc + 1)) := by
  intro Z hC L st w
  obtain ⟨p, e, s, m, args, below, meth, c, cells, slots, Q, D, cA, ad, A⟩ := Z
  obtain ⟨hx, hb, hml, hown, hB, hK, hD, hc1, hc2⟩ := hC
  refine ⟨fun b h k => ?_, fun q h => ?_⟩
  · unfold cf_iald at h
    split at h
    · rename_i i k0 r
      split at h
      · rename_i n hs
        cases hg : cf_in i n with
        | false => rw [hg] at h; exact nomatch h
        | true =>
          rw [hg] at h
          obtain rfl := Sum.inl.inj (Option.some.inj h)
          intro H locs ls hL hP hS
          have h26 : k0 < 26 := cf_shp_a hs (cf_in_pos hg)
          have hat : (cf_ws cA ad w)[k0]? = some (ad k0, .inl (cA, n, .inl (w k0))) := by rw [cf_ws_at, if_pos h26, cf_cel_a hs]
          exact va_iald hx hb hK hP k0 0 hat rfl (cf_in_vp hg) hd (k H locs ls hL hP hS)
      · cases h
    · cases h
  · unfold cf_iald at h
    split at h
    · rename_i i k0 r
      split at h
      · rename_i n hs
        cases hg : cf_in i n <;> rw [hg] at h <;> cases h
      · cases h
    · cases h
theorem cf_S_iast (hd : decode cc pc = .ok (.iastore, 1)) : cf_S l R cc nL own pc (cf_iast (pc + 1)) := by
  intro Z hC L st w
  obtain ⟨p, e, s, m, args, below, meth, c, cells, slots, Q, D, cA, ad, A⟩ := Z
  obtain ⟨hx, hb, hml, hown, hB, hK, hD, hc1, hc2⟩ := hC
  refine ⟨fun b h k => ?_, fun q h => ?_⟩
  · unfold cf_iast at h
    split at h
    · rename_i x i k0 r
      split at h
      · rename_i n hs
        cases hg : cf_in i n with
        | false => rw [hg] at h; exact nomatch h
        | true =>
          rw [hg] at h
          obtain rfl := Sum.inl.inj (Option.some.inj h)
          intro H locs ls hL hP hS
          have h26 : k0 < 26 := cf_shp_a hs (cf_in_pos hg)
          have hat : (cf_ws cA ad w)[k0]? = some (ad k0, .inl (cA, n, .inl (w k0))) := by rw [cf_ws_at, if_pos h26, cf_cel_a hs]
          exact va_iast hx hb hK hP (hD.va cA w) hS k0 0 hat rfl (cf_in_vp hg) hd (fun H1 locs1 hP1 hD1 hS1 => k H1 locs1 ls hL (by rw [cf_set_a _ hs] at hP1; exact hP1) hS1)
      · cases h
    · cases h
  · unfold cf_iast at h
    split at h
    · rename_i x i k0 r
      split at h
      · rename_i n hs
        cases hg : cf_in i n <;> rw [hg] at h <;> cases h
      · cases h
    · cases h
theorem cf_S_alen (hd : decode cc pc = .ok (.arraylength, 1)) : cf_S l R cc nL own pc (cf_alen (pc + 1)) := by
  intro Z hC L st w
  obtain ⟨p, e, s, m, args, below, meth, c, cells, slots, Q, D, cA, ad, A⟩ := Z
  obtain ⟨hx, hb, hml, hown, hB, hK, hD, hc1, hc2⟩ := hC
  refine ⟨fun b h k => ?_, fun q h => ?_⟩
  · unfold cf_alen at h
    split at h
    · rename_i k0 r
      split at h
      · rename_i n hs
        cases hg : Nat.blt k0 26 with
        | false => rw [hg] at h; exact nomatch h
        | true =>
          rw [hg] at h
          obtain rfl := Sum.inl.inj (Option.some.inj h)
          intro H locs ls hL hP hS
          have h26 : k0 < 26 := by simpa using hg
          have hat : (cf_ws cA ad w)[k0]? = some (ad k0, .inl (cA, n, .inl (w k0))) := by rw [cf_ws_at, if_pos h26, cf_cel_a hs]
          exact va_alen hx hb hK hP k0 0 hat rfl rfl hd (k H locs ls hL hP hS)
      · cases h
    · cases h
  · unfold cf_alen at h
    split at h
    · rename_i k0 r
      split at h
      · rename_i n hs
        cases hg : Nat.blt k0 26 <;> rw [hg] at h <;> cases h
      · cases h
    · cases h
theorem cf_S_get {ci j N idx : Nat} {C : String} {T : u_T} (hc : cf_cls[ci]? = some (C, T, N)) (hj : j < N) (hla : ∀ w ∈ u_ws C T N, w ∈ lw_tbl ∧ cf_g w = true) (hw : Cond.fieldLink own idx (T j).1 (T j).2.1 (T j).2.2.1 ∈ lw_tbl) (hd : decode cc pc = .ok (.getfield idx, 3)) : cf_S l R cc nL own pc (cf_get ci j (pc + 3)) := by
  intro Z hC L st w
  obtain ⟨p, e, s, m, args, below, meth, c, cells, slots, Q, D, cA, ad, A⟩ := Z
  obtain ⟨hx, hb, hml, hown, hB, hK, hD, hc1, hc2⟩ := hC
  have hts : ∀ w ∈ u_ws C T N, w.before args s = true := fun w hm => hB.use (hla w hm).1 (hla w hm).2 args
  refine ⟨fun b h k => ?_, fun q h => ?_⟩
  · unfold cf_get at h
    split at h
    · rename_i k0 r
      split at h
      · rename_i ci2 fs hs
        cases hg : Nat.beq ci2 ci with
        | false => rw [hg] at h; exact nomatch h
        | true =>
          have ec : ci2 = ci := by simpa using hg
          subst ec
          rw [hg] at h
          have h26 : k0 < 26 := cf_shp_o hs
          have hat : (cf_ws cA ad w)[k0]? = some (ad k0, .inr (ci2, cf_fv ad (w k0) 0 fs)) := by rw [cf_ws_at, if_pos h26, cf_cel_o hs]
          simp only [cond_true] at h
          split at h
          · rename_i hf
            obtain rfl := Sum.inl.inj (Option.some.inj h)
            intro H locs ls hL hP hS
            have hv := cf_fv_int ad (w k0) fs 0 j hf
            rw [Nat.zero_add] at hv
            exact va_get hx hb hts (fun _ z => z) hown hK hP k0 hat hc j hj (hB.use hw rfl args) (fun _ z => z) hv hd (k H locs ls hL hP hS)
          · rename_i t hf
            obtain rfl := Sum.inl.inj (Option.some.inj h)
            intro H locs ls hL hP hS
            have hv := cf_fv_ref ad (w k0) fs 0 j hf
            exact va_get hx hb hts (fun _ z => z) hown hK hP k0 hat hc j hj (hB.use hw rfl args) (fun _ z => z) hv hd (k H locs ls hL hP hS)
          · cases h
      · cases h
    · cases h
  · unfold cf_get at h
    split at h
    · rename_i k0 r
      split at h
      · rename_i ci2 fs hs
        cases hg : Nat.beq ci2 ci <;> rw [hg] at h
        · cases h
        · simp only [cond_true] at h
          split at h <;> cases h
      · cases h
    · cases h
theorem cf_S_getN {ci j N idx : Nat} {C : String} {T : u_T} {host : String} (hc : cf_cls[ci]? = some (C, T, N)) (hj : j < N) (hla : ∀ w ∈ u_ws C T N, w ∈ lw_tbl ∧ cf_g w = true) (hw : Cond.fieldLinkNest own idx (T j).1 (T j).2.1 (T j).2.2.1 host ∈ lw_tbl) (hd : decode cc pc = .ok (.getfield idx, 3)) : cf_S l R cc nL own pc (cf_get ci j (pc + 3)) := by
  intro Z hC L st w
  obtain ⟨p, e, s, m, args, below, meth, c, cells, slots, Q, D, cA, ad, A⟩ := Z
  obtain ⟨hx, hb, hml, hown, hB, hK, hD, hc1, hc2⟩ := hC
  have hts : ∀ w ∈ u_ws C T N, w.before args s = true := fun w hm => hB.use (hla w hm).1 (hla w hm).2 args
  refine ⟨fun b h k => ?_, fun q h => ?_⟩
  · unfold cf_get at h
    split at h
    · rename_i k0 r
      split at h
      · rename_i ci2 fs hs
        cases hg : Nat.beq ci2 ci with
        | false => rw [hg] at h; exact nomatch h
        | true =>
          have ec : ci2 = ci := by simpa using hg
          subst ec
          rw [hg] at h
          have h26 : k0 < 26 := cf_shp_o hs
          have hat : (cf_ws cA ad w)[k0]? = some (ad k0, .inr (ci2, cf_fv ad (w k0) 0 fs)) := by rw [cf_ws_at, if_pos h26, cf_cel_o hs]
          simp only [cond_true] at h
          split at h
          · rename_i hf
            obtain rfl := Sum.inl.inj (Option.some.inj h)
            intro H locs ls hL hP hS
            have hv := cf_fv_int ad (w k0) fs 0 j hf
            rw [Nat.zero_add] at hv
            exact va_getN hx hb hts (fun _ z => z) hown hK hP k0 hat hc j hj (hB.use hw rfl args) (fun _ z => z) hv hd (k H locs ls hL hP hS)
          · rename_i t hf
            obtain rfl := Sum.inl.inj (Option.some.inj h)
            intro H locs ls hL hP hS
            have hv := cf_fv_ref ad (w k0) fs 0 j hf
            exact va_getN hx hb hts (fun _ z => z) hown hK hP k0 hat hc j hj (hB.use hw rfl args) (fun _ z => z) hv hd (k H locs ls hL hP hS)
          · cases h
      · cases h
    · cases h
  · unfold cf_get at h
    split at h
    · rename_i k0 r
      split at h
      · rename_i ci2 fs hs
        cases hg : Nat.beq ci2 ci <;> rw [hg] at h
        · cases h
        · simp only [cond_true] at h
          split at h <;> cases h
      · cases h
    · cases h
theorem cf_S_put {ci j N idx : Nat} {C : String} {T : u_T} {tT : Nat → FieldType} (hc : cf_cls[ci]? = some (C, T, N)) (hj : j < N) (hla : ∀ w ∈ u_ws C T N, w ∈ lw_tbl ∧ cf_g w = true) (hty : ∀ k, k < N → parseFieldDescriptor (T k).2.2.1 = some (tT k)) (hnm : ∀ a, a < N → ∀ b, b < N → a ≠ b → (T a).2.1 ≠ (T b).2.1) (hfi : (T j).2.2.2 = false) (hdd : parseFieldDescriptor (T j).2.2.1 = some .int) (hw : Cond.fieldLink own idx (T j).1 (T j).2.1 (T j).2.2.1 ∈ lw_tbl) (hd : decode cc pc = .ok (.putfield idx, 3)) : cf_S l R cc nL own pc (cf_put ci j (pc + 3)) := by
  intro Z hC L st w
  obtain ⟨p, e, s, m, args, below, meth, c, cells, slots, Q, D, cA, ad, A⟩ := Z
  obtain ⟨hx, hb, hml, hown, hB, hK, hD, hc1, hc2⟩ := hC
  have hts : ∀ w ∈ u_ws C T N, w.before args s = true := fun w hm => hB.use (hla w hm).1 (hla w hm).2 args
  refine ⟨fun b h k => ?_, fun q h => ?_⟩
  · unfold cf_put at h
    split at h
    · rename_i x k0 r
      split at h
      · rename_i ci2 fs hs
        cases hg : Nat.beq ci2 ci with
        | false => rw [hg] at h; exact nomatch h
        | true =>
          have ec : ci2 = ci := by simpa using hg
          subst ec
          rw [hg] at h
          have h26 : k0 < 26 := cf_shp_o hs
          have hat : (cf_ws cA ad w)[k0]? = some (ad k0, .inr (ci2, cf_fv ad (w k0) 0 fs)) := by rw [cf_ws_at, if_pos h26, cf_cel_o hs]
          simp only [cond_true] at h
          split at h
          · rename_i hf
            obtain rfl := Sum.inl.inj (Option.some.inj h)
            intro H locs ls hL hP hS
            have hl : j < (cf_fv ad (w k0) 0 fs).length := by rw [cf_fv_len]; exact (List.getElem?_eq_some_iff.mp hf).1
            exact va_put hx hb hts (fun _ z => z) tT hty hnm hown hK hP (hD.va cA w) hS k0 hat hc j hj (hB.use hw rfl args) (fun _ z => z) hfi hdd rfl rfl hl hd (fun H1 locs1 hP1 hD1 hS1 => k H1 locs1 ls hL (by
                have e9 := cf_set_o (cA := cA) (ad := ad) (w := w) x hs hf
                exact Eq.mp (congrArg (fun z => va_P D cf_cls z H1) e9) hP1) hS1)
          · cases h
      · cases h
    · cases h
  · unfold cf_put at h
    split at h
    · rename_i x k0 r
      split at h
      · rename_i ci2 fs hs
        cases hg : Nat.beq ci2 ci <;> rw [hg] at h
        · cases h
        · simp only [cond_true] at h
          split at h
          · cases h
          · cases h
      · cases h
    · cases h
theorem cf_S_putz {ci j N idx : Nat} {C : String} {T : u_T} {tT : Nat → FieldType} (hc : cf_cls[ci]? = some (C, T, N)) (hj : j < N) (hla : ∀ w ∈ u_ws C T N, w ∈ lw_tbl ∧ cf_g w = true) (hty : ∀ k, k < N → parseFieldDescriptor (T k).2.2.1 = some (tT k)) (hnm : ∀ a, a < N → ∀ b, b < N → a ≠ b → (T a).2.1 ≠ (T b).2.1) (hfi : (T j).2.2.2 = false) (hdd : parseFieldDescriptor (T j).2.2.1 = some .boolean) (hw : Cond.fieldLink own idx (T j).1 (T j).2.1 (T j).2.2.1 ∈ lw_tbl) (hd : decode cc pc = .ok (.putfield idx, 3)) : cf_S l R cc nL own pc (cf_putz ci j (pc + 3)) := by
  intro Z hC L st w
  obtain ⟨p, e, s, m, args, below, meth, c, cells, slots, Q, D, cA, ad, A⟩ := Z
  obtain ⟨hx, hb, hml, hown, hB, hK, hD, hc1, hc2⟩ := hC
  have hts : ∀ w ∈ u_ws C T N, w.before args s = true := fun w hm => hB.use (hla w hm).1 (hla w hm).2 args
  refine ⟨fun b h k => ?_, fun q h => ?_⟩
  · unfold cf_putz at h
    split at h
    · rename_i x k0 r
      split at h
      · rename_i ci2 fs hs
        cases hg : Nat.beq ci2 ci with
        | false => rw [hg] at h; exact nomatch h
        | true =>
          have ec : ci2 = ci := by simpa using hg
          subst ec
          rw [hg] at h
          have h26 : k0 < 26 := cf_shp_o hs
          have hat : (cf_ws cA ad w)[k0]? = some (ad k0, .inr (ci2, cf_fv ad (w k0) 0 fs)) := by rw [cf_ws_at, if_pos h26, cf_cel_o hs]
          simp only [cond_true] at h
          split at h
          · rename_i hf
            cases hz : (x == 0 || x == 1) with
            | false => rw [hz] at h; exact nomatch h
            | true =>
              rw [hz] at h
              obtain rfl := Sum.inl.inj (Option.some.inj h)
              intro H locs ls hL hP hS
              have hl : j < (cf_fv ad (w k0) 0 fs).length := by rw [cf_fv_len]; exact (List.getElem?_eq_some_iff.mp hf).1
              exact va_put hx hb hts (fun _ z => z) tT hty hnm hown hK hP (hD.va cA w) hS k0 hat hc j hj (hB.use hw rfl args) (fun _ z => z) hfi hdd (cf_bool_n hz) (cf_bool_f hz) hl hd (fun H1 locs1 hP1 hD1 hS1 => k H1 locs1 ls hL (by
                have e9 := cf_set_o (cA := cA) (ad := ad) (w := w) x hs hf
                exact Eq.mp (congrArg (fun z => va_P D cf_cls z H1) e9) hP1) hS1)
          · cases h
      · cases h
    · cases h
  · unfold cf_putz at h
    split at h
    · rename_i x k0 r
      split at h
      · rename_i ci2 fs hs
        cases hg : Nat.beq ci2 ci <;> rw [hg] at h
        · cases h
        · simp only [cond_true] at h
          split at h
          · cases hz : (x == 0 || x == 1) <;> rw [hz] at h <;> cases h
          · cases h
      · cases h
    · cases h
theorem cf_S_tsw {d lo hi : Int} {offs : Array Int} {len dn : Nat} {tg : List Nat} (hd : decode cc pc = .ok (.tableswitch d lo hi offs, len)) (h0 : (pc : Int) + d = (dn : Int)) (hn : (offs.size : Int) = hi - lo + 1) (ht : ∀ i, i < offs.size → ((offs[i]?).map (fun o => (pc : Int) + o)) = some ((tg.getD i 0 : Nat) : Int)) : cf_S l R cc nL own pc (cf_tsw lo hi dn tg) := by
  intro Z hC L st w
  obtain ⟨p, e, s, m, args, below, meth, c, cells, slots, Q, D, cA, ad, A⟩ := Z
  obtain ⟨hx, hb, hml, hown, hB, hK, hD, hc1, hc2⟩ := hC
  refine ⟨fun b h k => ?_, fun q h => ?_⟩
  · unfold cf_tsw at h
    split at h
    · rename_i x r
      obtain rfl := Sum.inl.inj (Option.some.inj h)
      intro H locs ls hL hP hS
      by_cases hq : x.toInt < lo ∨ hi < x.toInt
      · rw [if_pos hq] at k
        exact lv_tableOut hx hb hd hq h0 (k H locs ls hL hP hS)
      · rw [if_neg hq] at k
        have hq1 : ¬ x.toInt < lo := fun z => hq (Or.inl z)
        have hq2 : ¬ hi < x.toInt := fun z => hq (Or.inr z)
        have hlt : (x.toInt - lo).toNat < offs.size := by omega
        have e := ht _ hlt
        obtain ⟨o, ho, ho2⟩ := Option.map_eq_some_iff.mp e
        exact lv_tableIn hx hb hd hq1 hq2 ho ho2 (k H locs ls hL hP hS)
    · cases h
  · unfold cf_tsw at h
    split at h <;> cases h
end Rows
