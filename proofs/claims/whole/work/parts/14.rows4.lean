noncomputable def T_P_line (pc : Nat) : cf_Rw := bif Nat.ble pc 18 then
 (bif Nat.ble pc 8 then
  (bif Nat.ble pc 1 then
   (bif Nat.ble pc 0 then
    (bif Nat.beq pc 0 then cf_aload 0 1 else cf_stuck)
    else
    (bif Nat.beq pc 1 then cf_iload 1 2 else cf_stuck))
   else
   (bif Nat.ble pc 2 then
    (bif Nat.beq pc 2 then cf_call 2 F_P_isCommit 5 else cf_stuck)
    else
    (bif Nat.ble pc 5 then
     (bif Nat.beq pc 5 then cf_ifeq 32 8 else cf_stuck)
     else
     (bif Nat.beq pc 8 then cf_iload 2 9 else cf_stuck))))
  else
  (bif Nat.ble pc 10 then
   (bif Nat.ble pc 9 then
    (bif Nat.beq pc 9 then cf_const 0 10 else cf_stuck)
    else
    (bif Nat.beq pc 10 then cf_const 7 12 else cf_stuck))
   else
   (bif Nat.ble pc 12 then
    (bif Nat.beq pc 12 then cf_call 3 F_P_in 15 else cf_stuck)
    else
    (bif Nat.ble pc 15 then
     (bif Nat.beq pc 15 then cf_ifeq 32 18 else cf_stuck)
     else
     (bif Nat.beq pc 18 then cf_aload 0 19 else cf_stuck)))))
 else
 (bif Nat.ble pc 26 then
  (bif Nat.ble pc 22 then
   (bif Nat.ble pc 19 then
    (bif Nat.beq pc 19 then cf_get 5 3 22 else cf_stuck)
    else
    (bif Nat.beq pc 22 then cf_const 8 24 else cf_stuck))
   else
   (bif Nat.ble pc 24 then
    (bif Nat.beq pc 24 then cf_iload 1 25 else cf_stuck)
    else
    (bif Nat.ble pc 25 then
     (bif Nat.beq pc 25 then cf_bin (fun x y => x * y) 26 else cf_stuck)
     else
     (bif Nat.beq pc 26 then cf_iload 2 27 else cf_stuck))))
  else
  (bif Nat.ble pc 28 then
   (bif Nat.ble pc 27 then
    (bif Nat.beq pc 27 then cf_bin (fun x y => x + y) 28 else cf_stuck)
    else
    (bif Nat.beq pc 28 then cf_iald 29 else cf_stuck))
   else
   (bif Nat.ble pc 29 then
    (bif Nat.beq pc 29 then cf_goto 33 else cf_stuck)
    else
    (bif Nat.ble pc 32 then
     (bif Nat.beq pc 32 then cf_const (-1) 33 else cf_stuck)
     else
     (bif Nat.beq pc 33 then cf_iret else cf_stuck)))))
noncomputable def F_P_line : List cf_AV → cf_Wd → Option cf_Rs := cf_F T_P_line 3 (some .int) (cf_shV 15 2)
theorem r_P_line_0 {l1 l2 : Option cf_AV} {k : Nat} {st : List cf_AV} {w : cf_Wd} {Q : cf_Rs → Prop} : cf_wp T_P_line (0, [some (.inr k), l1, l2], st, w) Q ↔ cf_wp T_P_line (1, [some (.inr k), l1, l2], .inr k :: st, w) Q := cf_w1 rfl
theorem r_P_line_1 {l0 l2 : Option cf_AV} {x : Int32} {st : List cf_AV} {w : cf_Wd} {Q : cf_Rs → Prop} : cf_wp T_P_line (1, [l0, some (.inl x), l2], st, w) Q ↔ cf_wp T_P_line (2, [l0, some (.inl x), l2], .inl x :: st, w) Q := cf_w1 rfl
theorem r_P_line_2 {l0 l1 l2 : Option cf_AV} {a1 : Int32} {w : cf_Wd} {Q : cf_Rs → Prop} : cf_wp T_P_line (2, [l0, l1, l2], [.inl a1, .inr 15], w) Q ↔ ∃ x w1, F_P_isCommit [.inr 15, .inl a1] w = some (some (.inl x), w1) ∧ cf_wp T_P_line (5, [l0, l1, l2], [.inl x], w1) Q := cf_wci (n := 2) (F := F_P_isCommit) (nx := 5) rfl rfl cf_F_b
theorem c_P_line_2 {l0 l1 l2 : Option cf_AV} {a1 : Int32} {x1 : Int32} {w1 : cf_Wd} {w : cf_Wd} {Q : cf_Rs → Prop} (hs : F_P_isCommit [.inr 15, .inl a1] w = some (some (.inl x1), w1)) : cf_wp T_P_line (2, [l0, l1, l2], [.inl a1, .inr 15], w) Q ↔ cf_wp T_P_line (5, [l0, l1, l2], [.inl x1], w1) Q := r_P_line_2.trans (cf_xi hs)
theorem r_P_line_5 {l0 l1 l2 : Option cf_AV} {x : Int32} {st : List cf_AV} {w : cf_Wd} {Q : cf_Rs → Prop} : cf_wp T_P_line (5, [l0, l1, l2], .inl x :: st, w) Q ↔ (if x = 0 then cf_wp T_P_line (32, [l0, l1, l2], st, w) Q else cf_wp T_P_line (8, [l0, l1, l2], st, w) Q) := cf_wi rfl
theorem r_P_line_8 {l0 l1 : Option cf_AV} {x : Int32} {st : List cf_AV} {w : cf_Wd} {Q : cf_Rs → Prop} : cf_wp T_P_line (8, [l0, l1, some (.inl x)], st, w) Q ↔ cf_wp T_P_line (9, [l0, l1, some (.inl x)], .inl x :: st, w) Q := cf_w1 rfl
theorem r_P_line_9 {l0 l1 l2 : Option cf_AV} {st : List cf_AV} {w : cf_Wd} {Q : cf_Rs → Prop} : cf_wp T_P_line (9, [l0, l1, l2], st, w) Q ↔ cf_wp T_P_line (10, [l0, l1, l2], .inl 0 :: st, w) Q := cf_w1 rfl
theorem r_P_line_10 {l0 l1 l2 : Option cf_AV} {st : List cf_AV} {w : cf_Wd} {Q : cf_Rs → Prop} : cf_wp T_P_line (10, [l0, l1, l2], st, w) Q ↔ cf_wp T_P_line (12, [l0, l1, l2], .inl 7 :: st, w) Q := cf_w1 rfl
theorem r_P_line_12 {l0 l1 l2 : Option cf_AV} {a2 a1 a0 : Int32} {w : cf_Wd} {Q : cf_Rs → Prop} : cf_wp T_P_line (12, [l0, l1, l2], [.inl a2, .inl a1, .inl a0], w) Q ↔ ∃ x w1, F_P_in [.inl a0, .inl a1, .inl a2] w = some (some (.inl x), w1) ∧ cf_wp T_P_line (15, [l0, l1, l2], [.inl x], w1) Q := cf_wci (n := 3) (F := F_P_in) (nx := 15) rfl rfl cf_F_b
theorem c_P_line_12 {l0 l1 l2 : Option cf_AV} {a2 a1 a0 : Int32} {x1 : Int32} {w1 : cf_Wd} {w : cf_Wd} {Q : cf_Rs → Prop} (hs : F_P_in [.inl a0, .inl a1, .inl a2] w = some (some (.inl x1), w1)) : cf_wp T_P_line (12, [l0, l1, l2], [.inl a2, .inl a1, .inl a0], w) Q ↔ cf_wp T_P_line (15, [l0, l1, l2], [.inl x1], w1) Q := r_P_line_12.trans (cf_xi hs)
theorem r_P_line_15 {l0 l1 l2 : Option cf_AV} {x : Int32} {st : List cf_AV} {w : cf_Wd} {Q : cf_Rs → Prop} : cf_wp T_P_line (15, [l0, l1, l2], .inl x :: st, w) Q ↔ (if x = 0 then cf_wp T_P_line (32, [l0, l1, l2], st, w) Q else cf_wp T_P_line (18, [l0, l1, l2], st, w) Q) := cf_wi rfl
theorem r_P_line_18 {l1 l2 : Option cf_AV} {k : Nat} {st : List cf_AV} {w : cf_Wd} {Q : cf_Rs → Prop} : cf_wp T_P_line (18, [some (.inr k), l1, l2], st, w) Q ↔ cf_wp T_P_line (19, [some (.inr k), l1, l2], .inr k :: st, w) Q := cf_w1 rfl
theorem r_P_line_19 {l0 l1 l2 : Option cf_AV} {st : List cf_AV} {w : cf_Wd} {Q : cf_Rs → Prop} : cf_wp T_P_line (19, [l0, l1, l2], .inr 15 :: st, w) Q ↔ cf_wp T_P_line (22, [l0, l1, l2], .inr 18 :: st, w) Q := cf_w1 rfl
theorem r_P_line_22 {l0 l1 l2 : Option cf_AV} {st : List cf_AV} {w : cf_Wd} {Q : cf_Rs → Prop} : cf_wp T_P_line (22, [l0, l1, l2], st, w) Q ↔ cf_wp T_P_line (24, [l0, l1, l2], .inl 8 :: st, w) Q := cf_w1 rfl
theorem r_P_line_24 {l0 l2 : Option cf_AV} {x : Int32} {st : List cf_AV} {w : cf_Wd} {Q : cf_Rs → Prop} : cf_wp T_P_line (24, [l0, some (.inl x), l2], st, w) Q ↔ cf_wp T_P_line (25, [l0, some (.inl x), l2], .inl x :: st, w) Q := cf_w1 rfl
theorem r_P_line_25 {l0 l1 l2 : Option cf_AV} {x y : Int32} {st : List cf_AV} {w : cf_Wd} {Q : cf_Rs → Prop} : cf_wp T_P_line (25, [l0, l1, l2], .inl y :: .inl x :: st, w) Q ↔ cf_wp T_P_line (26, [l0, l1, l2], .inl (x * y) :: st, w) Q := cf_w1 rfl
theorem r_P_line_26 {l0 l1 : Option cf_AV} {x : Int32} {st : List cf_AV} {w : cf_Wd} {Q : cf_Rs → Prop} : cf_wp T_P_line (26, [l0, l1, some (.inl x)], st, w) Q ↔ cf_wp T_P_line (27, [l0, l1, some (.inl x)], .inl x :: st, w) Q := cf_w1 rfl
theorem r_P_line_27 {l0 l1 l2 : Option cf_AV} {x y : Int32} {st : List cf_AV} {w : cf_Wd} {Q : cf_Rs → Prop} : cf_wp T_P_line (27, [l0, l1, l2], .inl y :: .inl x :: st, w) Q ↔ cf_wp T_P_line (28, [l0, l1, l2], .inl (x + y) :: st, w) Q := cf_w1 rfl
theorem r_P_line_28 {l0 l1 l2 : Option cf_AV} {i : Int32} {st : List cf_AV} {w : cf_Wd} {Q : cf_Rs → Prop} : cf_wp T_P_line (28, [l0, l1, l2], .inl i :: .inr 18 :: st, w) Q ↔ (cf_in i 112 = true ∧ cf_wp T_P_line (29, [l0, l1, l2], .inl (w 18 i.toNatClampNeg) :: st, w) Q) := cf_wg rfl
theorem r_P_line_29 {l0 l1 l2 : Option cf_AV} {st : List cf_AV} {w : cf_Wd} {Q : cf_Rs → Prop} : cf_wp T_P_line (29, [l0, l1, l2], st, w) Q ↔ cf_wp T_P_line (33, [l0, l1, l2], st, w) Q := cf_w1 rfl
theorem r_P_line_32 {l0 l1 l2 : Option cf_AV} {st : List cf_AV} {w : cf_Wd} {Q : cf_Rs → Prop} : cf_wp T_P_line (32, [l0, l1, l2], st, w) Q ↔ cf_wp T_P_line (33, [l0, l1, l2], .inl (-1) :: st, w) Q := cf_w1 rfl
theorem r_P_line_33 {l0 l1 l2 : Option cf_AV} {x : Int32} {w : cf_Wd} {P : Int32 → cf_Wd → Prop} : cf_wp T_P_line (33, [l0, l1, l2], [.inl x], w) (cf_qi P) ↔ P x w := Iff.trans (cf_wr (q := (some (.inl x), w)) rfl) Iff.rfl
theorem e_P_line {a1 a2 : Int32} {w : cf_Wd} {P : Int32 → cf_Wd → Prop} (h : cf_wp T_P_line (0, [some (.inr 15), some (.inl a1), some (.inl a2)], [], w) (cf_qi P)) : ∃ x w1, F_P_line [.inr 15, .inl a1, .inl a2] w = some (some (.inl x), w1) ∧ P x w1 := cf_ei rfl (Nat.le_of_ble_eq_true rfl) h
noncomputable def T_P_operation (pc : Nat) : cf_Rw := bif Nat.ble pc 4 then
 (bif Nat.ble pc 0 then
  (bif Nat.beq pc 0 then cf_aload 0 1 else cf_stuck)
  else
  (bif Nat.ble pc 1 then
   (bif Nat.beq pc 1 then cf_get 5 14 4 else cf_stuck)
   else
   (bif Nat.beq pc 4 then cf_iload 1 5 else cf_stuck)))
 else
 (bif Nat.ble pc 6 then
  (bif Nat.ble pc 5 then
   (bif Nat.beq pc 5 then cf_iald 6 else cf_stuck)
   else
   (bif Nat.beq pc 6 then cf_const 100 8 else cf_stuck))
  else
  (bif Nat.ble pc 8 then
   (bif Nat.beq pc 8 then cf_div 9 else cf_stuck)
   else
   (bif Nat.beq pc 9 then cf_iret else cf_stuck)))
noncomputable def F_P_operation : List cf_AV → cf_Wd → Option cf_Rs := cf_F T_P_operation 2 (some .int) (cf_shV 15 1)
theorem r_P_operation_0 {l1 : Option cf_AV} {k : Nat} {st : List cf_AV} {w : cf_Wd} {Q : cf_Rs → Prop} : cf_wp T_P_operation (0, [some (.inr k), l1], st, w) Q ↔ cf_wp T_P_operation (1, [some (.inr k), l1], .inr k :: st, w) Q := cf_w1 rfl
theorem r_P_operation_1 {l0 l1 : Option cf_AV} {st : List cf_AV} {w : cf_Wd} {Q : cf_Rs → Prop} : cf_wp T_P_operation (1, [l0, l1], .inr 15 :: st, w) Q ↔ cf_wp T_P_operation (4, [l0, l1], .inr 22 :: st, w) Q := cf_w1 rfl
theorem r_P_operation_4 {l0 : Option cf_AV} {x : Int32} {st : List cf_AV} {w : cf_Wd} {Q : cf_Rs → Prop} : cf_wp T_P_operation (4, [l0, some (.inl x)], st, w) Q ↔ cf_wp T_P_operation (5, [l0, some (.inl x)], .inl x :: st, w) Q := cf_w1 rfl
theorem r_P_operation_5 {l0 l1 : Option cf_AV} {i : Int32} {st : List cf_AV} {w : cf_Wd} {Q : cf_Rs → Prop} : cf_wp T_P_operation (5, [l0, l1], .inl i :: .inr 22 :: st, w) Q ↔ (cf_in i 8 = true ∧ cf_wp T_P_operation (6, [l0, l1], .inl (w 22 i.toNatClampNeg) :: st, w) Q) := cf_wg rfl
theorem r_P_operation_6 {l0 l1 : Option cf_AV} {st : List cf_AV} {w : cf_Wd} {Q : cf_Rs → Prop} : cf_wp T_P_operation (6, [l0, l1], st, w) Q ↔ cf_wp T_P_operation (8, [l0, l1], .inl 100 :: st, w) Q := cf_w1 rfl
theorem r_P_operation_8 {l0 l1 : Option cf_AV} {x y : Int32} {st : List cf_AV} {w : cf_Wd} {Q : cf_Rs → Prop} : cf_wp T_P_operation (8, [l0, l1], .inl y :: .inl x :: st, w) Q ↔ ((!(y == 0)) = true ∧ cf_wp T_P_operation (9, [l0, l1], .inl (x / y) :: st, w) Q) := cf_wg rfl
theorem r_P_operation_9 {l0 l1 : Option cf_AV} {x : Int32} {w : cf_Wd} {P : Int32 → cf_Wd → Prop} : cf_wp T_P_operation (9, [l0, l1], [.inl x], w) (cf_qi P) ↔ P x w := Iff.trans (cf_wr (q := (some (.inl x), w)) rfl) Iff.rfl
theorem e_P_operation {a1 : Int32} {w : cf_Wd} {P : Int32 → cf_Wd → Prop} (h : cf_wp T_P_operation (0, [some (.inr 15), some (.inl a1)], [], w) (cf_qi P)) : ∃ x w1, F_P_operation [.inr 15, .inl a1] w = some (some (.inl x), w1) ∧ P x w1 := cf_ei rfl (Nat.le_of_ble_eq_true rfl) h
noncomputable def T_P_a (pc : Nat) : cf_Rw := bif Nat.ble pc 5 then
 (bif Nat.ble pc 1 then
  (bif Nat.ble pc 0 then
   (bif Nat.beq pc 0 then cf_aload 0 1 else cf_stuck)
   else
   (bif Nat.beq pc 1 then cf_get 5 14 4 else cf_stuck))
  else
  (bif Nat.ble pc 4 then
   (bif Nat.beq pc 4 then cf_iload 1 5 else cf_stuck)
   else
   (bif Nat.beq pc 5 then cf_iald 6 else cf_stuck)))
 else
 (bif Nat.ble pc 8 then
  (bif Nat.ble pc 6 then
   (bif Nat.beq pc 6 then cf_const 10 8 else cf_stuck)
   else
   (bif Nat.beq pc 8 then cf_div 9 else cf_stuck))
  else
  (bif Nat.ble pc 9 then
   (bif Nat.beq pc 9 then cf_const 10 11 else cf_stuck)
   else
   (bif Nat.ble pc 11 then
    (bif Nat.beq pc 11 then cf_rem 12 else cf_stuck)
    else
    (bif Nat.beq pc 12 then cf_iret else cf_stuck))))
noncomputable def F_P_a : List cf_AV → cf_Wd → Option cf_Rs := cf_F T_P_a 2 (some .int) (cf_shV 15 1)
theorem r_P_a_0 {l1 : Option cf_AV} {k : Nat} {st : List cf_AV} {w : cf_Wd} {Q : cf_Rs → Prop} : cf_wp T_P_a (0, [some (.inr k), l1], st, w) Q ↔ cf_wp T_P_a (1, [some (.inr k), l1], .inr k :: st, w) Q := cf_w1 rfl
theorem r_P_a_1 {l0 l1 : Option cf_AV} {st : List cf_AV} {w : cf_Wd} {Q : cf_Rs → Prop} : cf_wp T_P_a (1, [l0, l1], .inr 15 :: st, w) Q ↔ cf_wp T_P_a (4, [l0, l1], .inr 22 :: st, w) Q := cf_w1 rfl
theorem r_P_a_4 {l0 : Option cf_AV} {x : Int32} {st : List cf_AV} {w : cf_Wd} {Q : cf_Rs → Prop} : cf_wp T_P_a (4, [l0, some (.inl x)], st, w) Q ↔ cf_wp T_P_a (5, [l0, some (.inl x)], .inl x :: st, w) Q := cf_w1 rfl
theorem r_P_a_5 {l0 l1 : Option cf_AV} {i : Int32} {st : List cf_AV} {w : cf_Wd} {Q : cf_Rs → Prop} : cf_wp T_P_a (5, [l0, l1], .inl i :: .inr 22 :: st, w) Q ↔ (cf_in i 8 = true ∧ cf_wp T_P_a (6, [l0, l1], .inl (w 22 i.toNatClampNeg) :: st, w) Q) := cf_wg rfl
theorem r_P_a_6 {l0 l1 : Option cf_AV} {st : List cf_AV} {w : cf_Wd} {Q : cf_Rs → Prop} : cf_wp T_P_a (6, [l0, l1], st, w) Q ↔ cf_wp T_P_a (8, [l0, l1], .inl 10 :: st, w) Q := cf_w1 rfl
theorem r_P_a_8 {l0 l1 : Option cf_AV} {x y : Int32} {st : List cf_AV} {w : cf_Wd} {Q : cf_Rs → Prop} : cf_wp T_P_a (8, [l0, l1], .inl y :: .inl x :: st, w) Q ↔ ((!(y == 0)) = true ∧ cf_wp T_P_a (9, [l0, l1], .inl (x / y) :: st, w) Q) := cf_wg rfl
theorem r_P_a_9 {l0 l1 : Option cf_AV} {st : List cf_AV} {w : cf_Wd} {Q : cf_Rs → Prop} : cf_wp T_P_a (9, [l0, l1], st, w) Q ↔ cf_wp T_P_a (11, [l0, l1], .inl 10 :: st, w) Q := cf_w1 rfl
theorem r_P_a_11 {l0 l1 : Option cf_AV} {x y : Int32} {st : List cf_AV} {w : cf_Wd} {Q : cf_Rs → Prop} : cf_wp T_P_a (11, [l0, l1], .inl y :: .inl x :: st, w) Q ↔ ((!(y == 0)) = true ∧ cf_wp T_P_a (12, [l0, l1], .inl (x - x / y * y) :: st, w) Q) := cf_wg rfl
theorem r_P_a_12 {l0 l1 : Option cf_AV} {x : Int32} {w : cf_Wd} {P : Int32 → cf_Wd → Prop} : cf_wp T_P_a (12, [l0, l1], [.inl x], w) (cf_qi P) ↔ P x w := Iff.trans (cf_wr (q := (some (.inl x), w)) rfl) Iff.rfl
theorem e_P_a {a1 : Int32} {w : cf_Wd} {P : Int32 → cf_Wd → Prop} (h : cf_wp T_P_a (0, [some (.inr 15), some (.inl a1)], [], w) (cf_qi P)) : ∃ x w1, F_P_a [.inr 15, .inl a1] w = some (some (.inl x), w1) ∧ P x w1 := cf_ei rfl (Nat.le_of_ble_eq_true rfl) h
noncomputable def T_P_b (pc : Nat) : cf_Rw := bif Nat.ble pc 4 then
 (bif Nat.ble pc 0 then
  (bif Nat.beq pc 0 then cf_aload 0 1 else cf_stuck)
  else
  (bif Nat.ble pc 1 then
   (bif Nat.beq pc 1 then cf_get 5 14 4 else cf_stuck)
   else
   (bif Nat.beq pc 4 then cf_iload 1 5 else cf_stuck)))
 else
 (bif Nat.ble pc 6 then
  (bif Nat.ble pc 5 then
   (bif Nat.beq pc 5 then cf_iald 6 else cf_stuck)
   else
   (bif Nat.beq pc 6 then cf_const 10 8 else cf_stuck))
  else
  (bif Nat.ble pc 8 then
   (bif Nat.beq pc 8 then cf_rem 9 else cf_stuck)
   else
   (bif Nat.beq pc 9 then cf_iret else cf_stuck)))
noncomputable def F_P_b : List cf_AV → cf_Wd → Option cf_Rs := cf_F T_P_b 2 (some .int) (cf_shV 15 1)
theorem r_P_b_0 {l1 : Option cf_AV} {k : Nat} {st : List cf_AV} {w : cf_Wd} {Q : cf_Rs → Prop} : cf_wp T_P_b (0, [some (.inr k), l1], st, w) Q ↔ cf_wp T_P_b (1, [some (.inr k), l1], .inr k :: st, w) Q := cf_w1 rfl
theorem r_P_b_1 {l0 l1 : Option cf_AV} {st : List cf_AV} {w : cf_Wd} {Q : cf_Rs → Prop} : cf_wp T_P_b (1, [l0, l1], .inr 15 :: st, w) Q ↔ cf_wp T_P_b (4, [l0, l1], .inr 22 :: st, w) Q := cf_w1 rfl
theorem r_P_b_4 {l0 : Option cf_AV} {x : Int32} {st : List cf_AV} {w : cf_Wd} {Q : cf_Rs → Prop} : cf_wp T_P_b (4, [l0, some (.inl x)], st, w) Q ↔ cf_wp T_P_b (5, [l0, some (.inl x)], .inl x :: st, w) Q := cf_w1 rfl
theorem r_P_b_5 {l0 l1 : Option cf_AV} {i : Int32} {st : List cf_AV} {w : cf_Wd} {Q : cf_Rs → Prop} : cf_wp T_P_b (5, [l0, l1], .inl i :: .inr 22 :: st, w) Q ↔ (cf_in i 8 = true ∧ cf_wp T_P_b (6, [l0, l1], .inl (w 22 i.toNatClampNeg) :: st, w) Q) := cf_wg rfl
theorem r_P_b_6 {l0 l1 : Option cf_AV} {st : List cf_AV} {w : cf_Wd} {Q : cf_Rs → Prop} : cf_wp T_P_b (6, [l0, l1], st, w) Q ↔ cf_wp T_P_b (8, [l0, l1], .inl 10 :: st, w) Q := cf_w1 rfl
theorem r_P_b_8 {l0 l1 : Option cf_AV} {x y : Int32} {st : List cf_AV} {w : cf_Wd} {Q : cf_Rs → Prop} : cf_wp T_P_b (8, [l0, l1], .inl y :: .inl x :: st, w) Q ↔ ((!(y == 0)) = true ∧ cf_wp T_P_b (9, [l0, l1], .inl (x - x / y * y) :: st, w) Q) := cf_wg rfl
theorem r_P_b_9 {l0 l1 : Option cf_AV} {x : Int32} {w : cf_Wd} {P : Int32 → cf_Wd → Prop} : cf_wp T_P_b (9, [l0, l1], [.inl x], w) (cf_qi P) ↔ P x w := Iff.trans (cf_wr (q := (some (.inl x), w)) rfl) Iff.rfl
theorem e_P_b {a1 : Int32} {w : cf_Wd} {P : Int32 → cf_Wd → Prop} (h : cf_wp T_P_b (0, [some (.inr 15), some (.inl a1)], [], w) (cf_qi P)) : ∃ x w1, F_P_b [.inr 15, .inl a1] w = some (some (.inl x), w1) ∧ P x w1 := cf_ei rfl (Nat.le_of_ble_eq_true rfl) h
noncomputable def T_P_pairs (pc : Nat) : cf_Rw := bif Nat.ble pc 57 then
 (bif Nat.ble pc 25 then
  (bif Nat.ble pc 9 then
   (bif Nat.ble pc 3 then
    (bif Nat.ble pc 1 then
     (bif Nat.ble pc 0 then
      (bif Nat.beq pc 0 then cf_const 0 1 else cf_stuck)
      else
      (bif Nat.beq pc 1 then cf_istore 1 2 else cf_stuck))
     else
     (bif Nat.ble pc 2 then
      (bif Nat.beq pc 2 then cf_const 1 3 else cf_stuck)
      else
      (bif Nat.beq pc 3 then cf_istore 2 4 else cf_stuck)))
    else
    (bif Nat.ble pc 5 then
     (bif Nat.ble pc 4 then
      (bif Nat.beq pc 4 then cf_const 0 5 else cf_stuck)
      else
      (bif Nat.beq pc 5 then cf_istore 3 6 else cf_stuck))
     else
     (bif Nat.ble pc 6 then
      (bif Nat.beq pc 6 then cf_iload 3 7 else cf_stuck)
      else
      (bif Nat.ble pc 7 then
       (bif Nat.beq pc 7 then cf_const 8 9 else cf_stuck)
       else
       (bif Nat.beq pc 9 then cf_icge 109 12 else cf_stuck)))))
   else
   (bif Nat.ble pc 18 then
    (bif Nat.ble pc 13 then
     (bif Nat.ble pc 12 then
      (bif Nat.beq pc 12 then cf_aload 0 13 else cf_stuck)
      else
      (bif Nat.beq pc 13 then cf_get 5 15 16 else cf_stuck))
     else
     (bif Nat.ble pc 16 then
      (bif Nat.beq pc 16 then cf_iload 3 17 else cf_stuck)
      else
      (bif Nat.ble pc 17 then
       (bif Nat.beq pc 17 then cf_const (-1) 18 else cf_stuck)
       else
       (bif Nat.beq pc 18 then cf_iast 19 else cf_stuck))))
    else
    (bif Nat.ble pc 20 then
     (bif Nat.ble pc 19 then
      (bif Nat.beq pc 19 then cf_aload 0 20 else cf_stuck)
      else
      (bif Nat.beq pc 20 then cf_iload 3 21 else cf_stuck))
     else
     (bif Nat.ble pc 21 then
      (bif Nat.beq pc 21 then cf_call 2 F_P_operation 24 else cf_stuck)
      else
      (bif Nat.ble pc 24 then
       (bif Nat.beq pc 24 then cf_const 4 25 else cf_stuck)
       else
       (bif Nat.beq pc 25 then cf_const 5 26 else cf_stuck))))))
  else
  (bif Nat.ble pc 40 then
   (bif Nat.ble pc 33 then
    (bif Nat.ble pc 29 then
     (bif Nat.ble pc 26 then
      (bif Nat.beq pc 26 then cf_call 3 F_P_in 29 else cf_stuck)
      else
      (bif Nat.beq pc 29 then cf_ifeq 43 32 else cf_stuck))
     else
     (bif Nat.ble pc 32 then
      (bif Nat.beq pc 32 then cf_aload 0 33 else cf_stuck)
      else
      (bif Nat.beq pc 33 then cf_get 5 16 36 else cf_stuck)))
    else
    (bif Nat.ble pc 37 then
     (bif Nat.ble pc 36 then
      (bif Nat.beq pc 36 then cf_iload 1 37 else cf_stuck)
      else
      (bif Nat.beq pc 37 then cf_iload 3 38 else cf_stuck))
     else
     (bif Nat.ble pc 38 then
      (bif Nat.beq pc 38 then cf_iast 39 else cf_stuck)
      else
      (bif Nat.ble pc 39 then
       (bif Nat.beq pc 39 then cf_iload 1 40 else cf_stuck)
       else
       (bif Nat.beq pc 40 then cf_const 1 41 else cf_stuck)))))
   else
   (bif Nat.ble pc 45 then
    (bif Nat.ble pc 42 then
     (bif Nat.ble pc 41 then
      (bif Nat.beq pc 41 then cf_bin (fun x y => x + y) 42 else cf_stuck)
      else
      (bif Nat.beq pc 42 then cf_istore 1 43 else cf_stuck))
     else
     (bif Nat.ble pc 43 then
      (bif Nat.beq pc 43 then cf_aload 0 44 else cf_stuck)
      else
      (bif Nat.ble pc 44 then
       (bif Nat.beq pc 44 then cf_iload 3 45 else cf_stuck)
       else
       (bif Nat.beq pc 45 then cf_call 2 F_P_operation 48 else cf_stuck))))
    else
    (bif Nat.ble pc 50 then
     (bif Nat.ble pc 48 then
      (bif Nat.beq pc 48 then cf_const 6 50 else cf_stuck)
      else
      (bif Nat.beq pc 50 then cf_icne 103 53 else cf_stuck))
     else
     (bif Nat.ble pc 53 then
      (bif Nat.beq pc 53 then cf_iload 2 54 else cf_stuck)
      else
      (bif Nat.ble pc 54 then
       (bif Nat.beq pc 54 then cf_ifeq 65 57 else cf_stuck)
       else
       (bif Nat.beq pc 57 then cf_iload 1 58 else cf_stuck)))))))
 else
 (bif Nat.ble pc 88 then
  (bif Nat.ble pc 72 then
   (bif Nat.ble pc 65 then
    (bif Nat.ble pc 61 then
     (bif Nat.ble pc 58 then
      (bif Nat.beq pc 58 then cf_ifle 65 61 else cf_stuck)
      else
      (bif Nat.beq pc 61 then cf_const 1 62 else cf_stuck))
     else
     (bif Nat.ble pc 62 then
      (bif Nat.beq pc 62 then cf_goto 66 else cf_stuck)
      else
      (bif Nat.beq pc 65 then cf_const 0 66 else cf_stuck)))
    else
    (bif Nat.ble pc 67 then
     (bif Nat.ble pc 66 then
      (bif Nat.beq pc 66 then cf_istore 2 67 else cf_stuck)
      else
      (bif Nat.beq pc 67 then cf_iload 1 68 else cf_stuck))
     else
     (bif Nat.ble pc 68 then
      (bif Nat.beq pc 68 then cf_ifle 77 71 else cf_stuck)
      else
      (bif Nat.ble pc 71 then
       (bif Nat.beq pc 71 then cf_iload 1 72 else cf_stuck)
       else
       (bif Nat.beq pc 72 then cf_const 1 73 else cf_stuck)))))
   else
   (bif Nat.ble pc 79 then
    (bif Nat.ble pc 74 then
     (bif Nat.ble pc 73 then
      (bif Nat.beq pc 73 then cf_bin (fun x y => x - y) 74 else cf_stuck)
      else
      (bif Nat.beq pc 74 then cf_goto 78 else cf_stuck))
     else
     (bif Nat.ble pc 77 then
      (bif Nat.beq pc 77 then cf_const 0 78 else cf_stuck)
      else
      (bif Nat.ble pc 78 then
       (bif Nat.beq pc 78 then cf_istore 1 79 else cf_stuck)
       else
       (bif Nat.beq pc 79 then cf_aload 0 80 else cf_stuck))))
    else
    (bif Nat.ble pc 83 then
     (bif Nat.ble pc 80 then
      (bif Nat.beq pc 80 then cf_get 5 15 83 else cf_stuck)
      else
      (bif Nat.beq pc 83 then cf_iload 3 84 else cf_stuck))
     else
     (bif Nat.ble pc 84 then
      (bif Nat.beq pc 84 then cf_aload 0 85 else cf_stuck)
      else
      (bif Nat.ble pc 85 then
       (bif Nat.beq pc 85 then cf_get 5 16 88 else cf_stuck)
       else
       (bif Nat.beq pc 88 then cf_iload 1 89 else cf_stuck))))))
  else
  (bif Nat.ble pc 102 then
   (bif Nat.ble pc 95 then
    (bif Nat.ble pc 90 then
     (bif Nat.ble pc 89 then
      (bif Nat.beq pc 89 then cf_iald 90 else cf_stuck)
      else
      (bif Nat.beq pc 90 then cf_iast 91 else cf_stuck))
     else
     (bif Nat.ble pc 91 then
      (bif Nat.beq pc 91 then cf_aload 0 92 else cf_stuck)
      else
      (bif Nat.ble pc 92 then
       (bif Nat.beq pc 92 then cf_get 5 15 95 else cf_stuck)
       else
       (bif Nat.beq pc 95 then cf_aload 0 96 else cf_stuck))))
    else
    (bif Nat.ble pc 99 then
     (bif Nat.ble pc 96 then
      (bif Nat.beq pc 96 then cf_get 5 16 99 else cf_stuck)
      else
      (bif Nat.beq pc 99 then cf_iload 1 100 else cf_stuck))
     else
     (bif Nat.ble pc 100 then
      (bif Nat.beq pc 100 then cf_iald 101 else cf_stuck)
      else
      (bif Nat.ble pc 101 then
       (bif Nat.beq pc 101 then cf_iload 3 102 else cf_stuck)
       else
       (bif Nat.beq pc 102 then cf_iast 103 else cf_stuck)))))
   else
   (bif Nat.ble pc 113 then
    (bif Nat.ble pc 106 then
     (bif Nat.ble pc 103 then
      (bif Nat.beq pc 103 then cf_iinc 3 1 106 else cf_stuck)
      else
      (bif Nat.beq pc 106 then cf_goto 6 else cf_stuck))
     else
     (bif Nat.ble pc 109 then
      (bif Nat.beq pc 109 then cf_iload 2 110 else cf_stuck)
      else
      (bif Nat.ble pc 110 then
       (bif Nat.beq pc 110 then cf_ifeq 121 113 else cf_stuck)
       else
       (bif Nat.beq pc 113 then cf_iload 1 114 else cf_stuck))))
    else
    (bif Nat.ble pc 117 then
     (bif Nat.ble pc 114 then
      (bif Nat.beq pc 114 then cf_ifne 121 117 else cf_stuck)
      else
      (bif Nat.beq pc 117 then cf_const 1 118 else cf_stuck))
     else
     (bif Nat.ble pc 118 then
      (bif Nat.beq pc 118 then cf_goto 122 else cf_stuck)
      else
      (bif Nat.ble pc 121 then
       (bif Nat.beq pc 121 then cf_const 0 122 else cf_stuck)
       else
       (bif Nat.beq pc 122 then cf_iret else cf_stuck)))))))
noncomputable def F_P_pairs : List cf_AV → cf_Wd → Option cf_Rs := cf_F T_P_pairs 4 (some .boolean) (cf_shV 15 0)
theorem r_P_pairs_0 {l0 l1 l2 l3 : Option cf_AV} {st : List cf_AV} {w : cf_Wd} {Q : cf_Rs → Prop} : cf_wp T_P_pairs (0, [l0, l1, l2, l3], st, w) Q ↔ cf_wp T_P_pairs (1, [l0, l1, l2, l3], .inl 0 :: st, w) Q := cf_w1 rfl
theorem r_P_pairs_1 {l0 l1 l2 l3 : Option cf_AV} {x : Int32} {st : List cf_AV} {w : cf_Wd} {Q : cf_Rs → Prop} : cf_wp T_P_pairs (1, [l0, l1, l2, l3], .inl x :: st, w) Q ↔ cf_wp T_P_pairs (2, [l0, some (.inl x), l2, l3], st, w) Q := cf_w1 rfl
theorem r_P_pairs_2 {l0 l1 l2 l3 : Option cf_AV} {st : List cf_AV} {w : cf_Wd} {Q : cf_Rs → Prop} : cf_wp T_P_pairs (2, [l0, l1, l2, l3], st, w) Q ↔ cf_wp T_P_pairs (3, [l0, l1, l2, l3], .inl 1 :: st, w) Q := cf_w1 rfl
theorem r_P_pairs_3 {l0 l1 l2 l3 : Option cf_AV} {x : Int32} {st : List cf_AV} {w : cf_Wd} {Q : cf_Rs → Prop} : cf_wp T_P_pairs (3, [l0, l1, l2, l3], .inl x :: st, w) Q ↔ cf_wp T_P_pairs (4, [l0, l1, some (.inl x), l3], st, w) Q := cf_w1 rfl
theorem r_P_pairs_4 {l0 l1 l2 l3 : Option cf_AV} {st : List cf_AV} {w : cf_Wd} {Q : cf_Rs → Prop} : cf_wp T_P_pairs (4, [l0, l1, l2, l3], st, w) Q ↔ cf_wp T_P_pairs (5, [l0, l1, l2, l3], .inl 0 :: st, w) Q := cf_w1 rfl
theorem r_P_pairs_5 {l0 l1 l2 l3 : Option cf_AV} {x : Int32} {st : List cf_AV} {w : cf_Wd} {Q : cf_Rs → Prop} : cf_wp T_P_pairs (5, [l0, l1, l2, l3], .inl x :: st, w) Q ↔ cf_wp T_P_pairs (6, [l0, l1, l2, some (.inl x)], st, w) Q := cf_w1 rfl
theorem r_P_pairs_6 {l0 l1 l2 : Option cf_AV} {x : Int32} {st : List cf_AV} {w : cf_Wd} {Q : cf_Rs → Prop} : cf_wp T_P_pairs (6, [l0, l1, l2, some (.inl x)], st, w) Q ↔ cf_wp T_P_pairs (7, [l0, l1, l2, some (.inl x)], .inl x :: st, w) Q := cf_w1 rfl
theorem r_P_pairs_7 {l0 l1 l2 l3 : Option cf_AV} {st : List cf_AV} {w : cf_Wd} {Q : cf_Rs → Prop} : cf_wp T_P_pairs (7, [l0, l1, l2, l3], st, w) Q ↔ cf_wp T_P_pairs (9, [l0, l1, l2, l3], .inl 8 :: st, w) Q := cf_w1 rfl
theorem r_P_pairs_9 {l0 l1 l2 l3 : Option cf_AV} {x y : Int32} {st : List cf_AV} {w : cf_Wd} {Q : cf_Rs → Prop} : cf_wp T_P_pairs (9, [l0, l1, l2, l3], .inl y :: .inl x :: st, w) Q ↔ (if y ≤ x then cf_wp T_P_pairs (109, [l0, l1, l2, l3], st, w) Q else cf_wp T_P_pairs (12, [l0, l1, l2, l3], st, w) Q) := cf_wi rfl
theorem r_P_pairs_12 {l1 l2 l3 : Option cf_AV} {k : Nat} {st : List cf_AV} {w : cf_Wd} {Q : cf_Rs → Prop} : cf_wp T_P_pairs (12, [some (.inr k), l1, l2, l3], st, w) Q ↔ cf_wp T_P_pairs (13, [some (.inr k), l1, l2, l3], .inr k :: st, w) Q := cf_w1 rfl
theorem r_P_pairs_13 {l0 l1 l2 l3 : Option cf_AV} {st : List cf_AV} {w : cf_Wd} {Q : cf_Rs → Prop} : cf_wp T_P_pairs (13, [l0, l1, l2, l3], .inr 15 :: st, w) Q ↔ cf_wp T_P_pairs (16, [l0, l1, l2, l3], .inr 23 :: st, w) Q := cf_w1 rfl
theorem r_P_pairs_16 {l0 l1 l2 : Option cf_AV} {x : Int32} {st : List cf_AV} {w : cf_Wd} {Q : cf_Rs → Prop} : cf_wp T_P_pairs (16, [l0, l1, l2, some (.inl x)], st, w) Q ↔ cf_wp T_P_pairs (17, [l0, l1, l2, some (.inl x)], .inl x :: st, w) Q := cf_w1 rfl
theorem r_P_pairs_17 {l0 l1 l2 l3 : Option cf_AV} {st : List cf_AV} {w : cf_Wd} {Q : cf_Rs → Prop} : cf_wp T_P_pairs (17, [l0, l1, l2, l3], st, w) Q ↔ cf_wp T_P_pairs (18, [l0, l1, l2, l3], .inl (-1) :: st, w) Q := cf_w1 rfl
theorem r_P_pairs_18 {l0 l1 l2 l3 : Option cf_AV} {x i : Int32} {st : List cf_AV} {w : cf_Wd} {Q : cf_Rs → Prop} : cf_wp T_P_pairs (18, [l0, l1, l2, l3], .inl x :: .inl i :: .inr 23 :: st, w) Q ↔ (cf_in i 8 = true ∧ cf_wp T_P_pairs (19, [l0, l1, l2, l3], st, (cf_wa w 23 (upd (w 23) i.toNatClampNeg x))) Q) := cf_wg rfl
theorem r_P_pairs_19 {l1 l2 l3 : Option cf_AV} {k : Nat} {st : List cf_AV} {w : cf_Wd} {Q : cf_Rs → Prop} : cf_wp T_P_pairs (19, [some (.inr k), l1, l2, l3], st, w) Q ↔ cf_wp T_P_pairs (20, [some (.inr k), l1, l2, l3], .inr k :: st, w) Q := cf_w1 rfl
theorem r_P_pairs_20 {l0 l1 l2 : Option cf_AV} {x : Int32} {st : List cf_AV} {w : cf_Wd} {Q : cf_Rs → Prop} : cf_wp T_P_pairs (20, [l0, l1, l2, some (.inl x)], st, w) Q ↔ cf_wp T_P_pairs (21, [l0, l1, l2, some (.inl x)], .inl x :: st, w) Q := cf_w1 rfl
theorem r_P_pairs_21 {l0 l1 l2 l3 : Option cf_AV} {a1 : Int32} {w : cf_Wd} {Q : cf_Rs → Prop} : cf_wp T_P_pairs (21, [l0, l1, l2, l3], [.inl a1, .inr 15], w) Q ↔ ∃ x w1, F_P_operation [.inr 15, .inl a1] w = some (some (.inl x), w1) ∧ cf_wp T_P_pairs (24, [l0, l1, l2, l3], [.inl x], w1) Q := cf_wci (n := 2) (F := F_P_operation) (nx := 24) rfl rfl cf_F_i
theorem c_P_pairs_21 {l0 l1 l2 l3 : Option cf_AV} {a1 : Int32} {x1 : Int32} {w1 : cf_Wd} {w : cf_Wd} {Q : cf_Rs → Prop} (hs : F_P_operation [.inr 15, .inl a1] w = some (some (.inl x1), w1)) : cf_wp T_P_pairs (21, [l0, l1, l2, l3], [.inl a1, .inr 15], w) Q ↔ cf_wp T_P_pairs (24, [l0, l1, l2, l3], [.inl x1], w1) Q := r_P_pairs_21.trans (cf_xi hs)
theorem r_P_pairs_24 {l0 l1 l2 l3 : Option cf_AV} {st : List cf_AV} {w : cf_Wd} {Q : cf_Rs → Prop} : cf_wp T_P_pairs (24, [l0, l1, l2, l3], st, w) Q ↔ cf_wp T_P_pairs (25, [l0, l1, l2, l3], .inl 4 :: st, w) Q := cf_w1 rfl
theorem r_P_pairs_25 {l0 l1 l2 l3 : Option cf_AV} {st : List cf_AV} {w : cf_Wd} {Q : cf_Rs → Prop} : cf_wp T_P_pairs (25, [l0, l1, l2, l3], st, w) Q ↔ cf_wp T_P_pairs (26, [l0, l1, l2, l3], .inl 5 :: st, w) Q := cf_w1 rfl
theorem r_P_pairs_26 {l0 l1 l2 l3 : Option cf_AV} {a2 a1 a0 : Int32} {w : cf_Wd} {Q : cf_Rs → Prop} : cf_wp T_P_pairs (26, [l0, l1, l2, l3], [.inl a2, .inl a1, .inl a0], w) Q ↔ ∃ x w1, F_P_in [.inl a0, .inl a1, .inl a2] w = some (some (.inl x), w1) ∧ cf_wp T_P_pairs (29, [l0, l1, l2, l3], [.inl x], w1) Q := cf_wci (n := 3) (F := F_P_in) (nx := 29) rfl rfl cf_F_b
theorem c_P_pairs_26 {l0 l1 l2 l3 : Option cf_AV} {a2 a1 a0 : Int32} {x1 : Int32} {w1 : cf_Wd} {w : cf_Wd} {Q : cf_Rs → Prop} (hs : F_P_in [.inl a0, .inl a1, .inl a2] w = some (some (.inl x1), w1)) : cf_wp T_P_pairs (26, [l0, l1, l2, l3], [.inl a2, .inl a1, .inl a0], w) Q ↔ cf_wp T_P_pairs (29, [l0, l1, l2, l3], [.inl x1], w1) Q := r_P_pairs_26.trans (cf_xi hs)
theorem r_P_pairs_29 {l0 l1 l2 l3 : Option cf_AV} {x : Int32} {st : List cf_AV} {w : cf_Wd} {Q : cf_Rs → Prop} : cf_wp T_P_pairs (29, [l0, l1, l2, l3], .inl x :: st, w) Q ↔ (if x = 0 then cf_wp T_P_pairs (43, [l0, l1, l2, l3], st, w) Q else cf_wp T_P_pairs (32, [l0, l1, l2, l3], st, w) Q) := cf_wi rfl
theorem r_P_pairs_32 {l1 l2 l3 : Option cf_AV} {k : Nat} {st : List cf_AV} {w : cf_Wd} {Q : cf_Rs → Prop} : cf_wp T_P_pairs (32, [some (.inr k), l1, l2, l3], st, w) Q ↔ cf_wp T_P_pairs (33, [some (.inr k), l1, l2, l3], .inr k :: st, w) Q := cf_w1 rfl
theorem r_P_pairs_33 {l0 l1 l2 l3 : Option cf_AV} {st : List cf_AV} {w : cf_Wd} {Q : cf_Rs → Prop} : cf_wp T_P_pairs (33, [l0, l1, l2, l3], .inr 15 :: st, w) Q ↔ cf_wp T_P_pairs (36, [l0, l1, l2, l3], .inr 24 :: st, w) Q := cf_w1 rfl
theorem r_P_pairs_36 {l0 l2 l3 : Option cf_AV} {x : Int32} {st : List cf_AV} {w : cf_Wd} {Q : cf_Rs → Prop} : cf_wp T_P_pairs (36, [l0, some (.inl x), l2, l3], st, w) Q ↔ cf_wp T_P_pairs (37, [l0, some (.inl x), l2, l3], .inl x :: st, w) Q := cf_w1 rfl
theorem r_P_pairs_37 {l0 l1 l2 : Option cf_AV} {x : Int32} {st : List cf_AV} {w : cf_Wd} {Q : cf_Rs → Prop} : cf_wp T_P_pairs (37, [l0, l1, l2, some (.inl x)], st, w) Q ↔ cf_wp T_P_pairs (38, [l0, l1, l2, some (.inl x)], .inl x :: st, w) Q := cf_w1 rfl
theorem r_P_pairs_38 {l0 l1 l2 l3 : Option cf_AV} {x i : Int32} {st : List cf_AV} {w : cf_Wd} {Q : cf_Rs → Prop} : cf_wp T_P_pairs (38, [l0, l1, l2, l3], .inl x :: .inl i :: .inr 24 :: st, w) Q ↔ (cf_in i 8 = true ∧ cf_wp T_P_pairs (39, [l0, l1, l2, l3], st, (cf_wa w 24 (upd (w 24) i.toNatClampNeg x))) Q) := cf_wg rfl
theorem r_P_pairs_39 {l0 l2 l3 : Option cf_AV} {x : Int32} {st : List cf_AV} {w : cf_Wd} {Q : cf_Rs → Prop} : cf_wp T_P_pairs (39, [l0, some (.inl x), l2, l3], st, w) Q ↔ cf_wp T_P_pairs (40, [l0, some (.inl x), l2, l3], .inl x :: st, w) Q := cf_w1 rfl
theorem r_P_pairs_40 {l0 l1 l2 l3 : Option cf_AV} {st : List cf_AV} {w : cf_Wd} {Q : cf_Rs → Prop} : cf_wp T_P_pairs (40, [l0, l1, l2, l3], st, w) Q ↔ cf_wp T_P_pairs (41, [l0, l1, l2, l3], .inl 1 :: st, w) Q := cf_w1 rfl
theorem r_P_pairs_41 {l0 l1 l2 l3 : Option cf_AV} {x y : Int32} {st : List cf_AV} {w : cf_Wd} {Q : cf_Rs → Prop} : cf_wp T_P_pairs (41, [l0, l1, l2, l3], .inl y :: .inl x :: st, w) Q ↔ cf_wp T_P_pairs (42, [l0, l1, l2, l3], .inl (x + y) :: st, w) Q := cf_w1 rfl
theorem r_P_pairs_42 {l0 l1 l2 l3 : Option cf_AV} {x : Int32} {st : List cf_AV} {w : cf_Wd} {Q : cf_Rs → Prop} : cf_wp T_P_pairs (42, [l0, l1, l2, l3], .inl x :: st, w) Q ↔ cf_wp T_P_pairs (43, [l0, some (.inl x), l2, l3], st, w) Q := cf_w1 rfl
theorem r_P_pairs_43 {l1 l2 l3 : Option cf_AV} {k : Nat} {st : List cf_AV} {w : cf_Wd} {Q : cf_Rs → Prop} : cf_wp T_P_pairs (43, [some (.inr k), l1, l2, l3], st, w) Q ↔ cf_wp T_P_pairs (44, [some (.inr k), l1, l2, l3], .inr k :: st, w) Q := cf_w1 rfl
theorem r_P_pairs_44 {l0 l1 l2 : Option cf_AV} {x : Int32} {st : List cf_AV} {w : cf_Wd} {Q : cf_Rs → Prop} : cf_wp T_P_pairs (44, [l0, l1, l2, some (.inl x)], st, w) Q ↔ cf_wp T_P_pairs (45, [l0, l1, l2, some (.inl x)], .inl x :: st, w) Q := cf_w1 rfl
theorem r_P_pairs_45 {l0 l1 l2 l3 : Option cf_AV} {a1 : Int32} {w : cf_Wd} {Q : cf_Rs → Prop} : cf_wp T_P_pairs (45, [l0, l1, l2, l3], [.inl a1, .inr 15], w) Q ↔ ∃ x w1, F_P_operation [.inr 15, .inl a1] w = some (some (.inl x), w1) ∧ cf_wp T_P_pairs (48, [l0, l1, l2, l3], [.inl x], w1) Q := cf_wci (n := 2) (F := F_P_operation) (nx := 48) rfl rfl cf_F_i
theorem c_P_pairs_45 {l0 l1 l2 l3 : Option cf_AV} {a1 : Int32} {x1 : Int32} {w1 : cf_Wd} {w : cf_Wd} {Q : cf_Rs → Prop} (hs : F_P_operation [.inr 15, .inl a1] w = some (some (.inl x1), w1)) : cf_wp T_P_pairs (45, [l0, l1, l2, l3], [.inl a1, .inr 15], w) Q ↔ cf_wp T_P_pairs (48, [l0, l1, l2, l3], [.inl x1], w1) Q := r_P_pairs_45.trans (cf_xi hs)
theorem r_P_pairs_48 {l0 l1 l2 l3 : Option cf_AV} {st : List cf_AV} {w : cf_Wd} {Q : cf_Rs → Prop} : cf_wp T_P_pairs (48, [l0, l1, l2, l3], st, w) Q ↔ cf_wp T_P_pairs (50, [l0, l1, l2, l3], .inl 6 :: st, w) Q := cf_w1 rfl
theorem r_P_pairs_50 {l0 l1 l2 l3 : Option cf_AV} {x y : Int32} {st : List cf_AV} {w : cf_Wd} {Q : cf_Rs → Prop} : cf_wp T_P_pairs (50, [l0, l1, l2, l3], .inl y :: .inl x :: st, w) Q ↔ (if ¬ x = y then cf_wp T_P_pairs (103, [l0, l1, l2, l3], st, w) Q else cf_wp T_P_pairs (53, [l0, l1, l2, l3], st, w) Q) := cf_wi rfl
theorem r_P_pairs_53 {l0 l1 l3 : Option cf_AV} {x : Int32} {st : List cf_AV} {w : cf_Wd} {Q : cf_Rs → Prop} : cf_wp T_P_pairs (53, [l0, l1, some (.inl x), l3], st, w) Q ↔ cf_wp T_P_pairs (54, [l0, l1, some (.inl x), l3], .inl x :: st, w) Q := cf_w1 rfl
theorem r_P_pairs_54 {l0 l1 l2 l3 : Option cf_AV} {x : Int32} {st : List cf_AV} {w : cf_Wd} {Q : cf_Rs → Prop} : cf_wp T_P_pairs (54, [l0, l1, l2, l3], .inl x :: st, w) Q ↔ (if x = 0 then cf_wp T_P_pairs (65, [l0, l1, l2, l3], st, w) Q else cf_wp T_P_pairs (57, [l0, l1, l2, l3], st, w) Q) := cf_wi rfl
theorem r_P_pairs_57 {l0 l2 l3 : Option cf_AV} {x : Int32} {st : List cf_AV} {w : cf_Wd} {Q : cf_Rs → Prop} : cf_wp T_P_pairs (57, [l0, some (.inl x), l2, l3], st, w) Q ↔ cf_wp T_P_pairs (58, [l0, some (.inl x), l2, l3], .inl x :: st, w) Q := cf_w1 rfl
theorem r_P_pairs_58 {l0 l1 l2 l3 : Option cf_AV} {x : Int32} {st : List cf_AV} {w : cf_Wd} {Q : cf_Rs → Prop} : cf_wp T_P_pairs (58, [l0, l1, l2, l3], .inl x :: st, w) Q ↔ (if x ≤ 0 then cf_wp T_P_pairs (65, [l0, l1, l2, l3], st, w) Q else cf_wp T_P_pairs (61, [l0, l1, l2, l3], st, w) Q) := cf_wi rfl
theorem r_P_pairs_61 {l0 l1 l2 l3 : Option cf_AV} {st : List cf_AV} {w : cf_Wd} {Q : cf_Rs → Prop} : cf_wp T_P_pairs (61, [l0, l1, l2, l3], st, w) Q ↔ cf_wp T_P_pairs (62, [l0, l1, l2, l3], .inl 1 :: st, w) Q := cf_w1 rfl
theorem r_P_pairs_62 {l0 l1 l2 l3 : Option cf_AV} {st : List cf_AV} {w : cf_Wd} {Q : cf_Rs → Prop} : cf_wp T_P_pairs (62, [l0, l1, l2, l3], st, w) Q ↔ cf_wp T_P_pairs (66, [l0, l1, l2, l3], st, w) Q := cf_w1 rfl
theorem r_P_pairs_65 {l0 l1 l2 l3 : Option cf_AV} {st : List cf_AV} {w : cf_Wd} {Q : cf_Rs → Prop} : cf_wp T_P_pairs (65, [l0, l1, l2, l3], st, w) Q ↔ cf_wp T_P_pairs (66, [l0, l1, l2, l3], .inl 0 :: st, w) Q := cf_w1 rfl
theorem r_P_pairs_66 {l0 l1 l2 l3 : Option cf_AV} {x : Int32} {st : List cf_AV} {w : cf_Wd} {Q : cf_Rs → Prop} : cf_wp T_P_pairs (66, [l0, l1, l2, l3], .inl x :: st, w) Q ↔ cf_wp T_P_pairs (67, [l0, l1, some (.inl x), l3], st, w) Q := cf_w1 rfl
theorem r_P_pairs_67 {l0 l2 l3 : Option cf_AV} {x : Int32} {st : List cf_AV} {w : cf_Wd} {Q : cf_Rs → Prop} : cf_wp T_P_pairs (67, [l0, some (.inl x), l2, l3], st, w) Q ↔ cf_wp T_P_pairs (68, [l0, some (.inl x), l2, l3], .inl x :: st, w) Q := cf_w1 rfl
theorem r_P_pairs_68 {l0 l1 l2 l3 : Option cf_AV} {x : Int32} {st : List cf_AV} {w : cf_Wd} {Q : cf_Rs → Prop} : cf_wp T_P_pairs (68, [l0, l1, l2, l3], .inl x :: st, w) Q ↔ (if x ≤ 0 then cf_wp T_P_pairs (77, [l0, l1, l2, l3], st, w) Q else cf_wp T_P_pairs (71, [l0, l1, l2, l3], st, w) Q) := cf_wi rfl
theorem r_P_pairs_71 {l0 l2 l3 : Option cf_AV} {x : Int32} {st : List cf_AV} {w : cf_Wd} {Q : cf_Rs → Prop} : cf_wp T_P_pairs (71, [l0, some (.inl x), l2, l3], st, w) Q ↔ cf_wp T_P_pairs (72, [l0, some (.inl x), l2, l3], .inl x :: st, w) Q := cf_w1 rfl
theorem r_P_pairs_72 {l0 l1 l2 l3 : Option cf_AV} {st : List cf_AV} {w : cf_Wd} {Q : cf_Rs → Prop} : cf_wp T_P_pairs (72, [l0, l1, l2, l3], st, w) Q ↔ cf_wp T_P_pairs (73, [l0, l1, l2, l3], .inl 1 :: st, w) Q := cf_w1 rfl
theorem r_P_pairs_73 {l0 l1 l2 l3 : Option cf_AV} {x y : Int32} {st : List cf_AV} {w : cf_Wd} {Q : cf_Rs → Prop} : cf_wp T_P_pairs (73, [l0, l1, l2, l3], .inl y :: .inl x :: st, w) Q ↔ cf_wp T_P_pairs (74, [l0, l1, l2, l3], .inl (x - y) :: st, w) Q := cf_w1 rfl
theorem r_P_pairs_74 {l0 l1 l2 l3 : Option cf_AV} {st : List cf_AV} {w : cf_Wd} {Q : cf_Rs → Prop} : cf_wp T_P_pairs (74, [l0, l1, l2, l3], st, w) Q ↔ cf_wp T_P_pairs (78, [l0, l1, l2, l3], st, w) Q := cf_w1 rfl
theorem r_P_pairs_77 {l0 l1 l2 l3 : Option cf_AV} {st : List cf_AV} {w : cf_Wd} {Q : cf_Rs → Prop} : cf_wp T_P_pairs (77, [l0, l1, l2, l3], st, w) Q ↔ cf_wp T_P_pairs (78, [l0, l1, l2, l3], .inl 0 :: st, w) Q := cf_w1 rfl
theorem r_P_pairs_78 {l0 l1 l2 l3 : Option cf_AV} {x : Int32} {st : List cf_AV} {w : cf_Wd} {Q : cf_Rs → Prop} : cf_wp T_P_pairs (78, [l0, l1, l2, l3], .inl x :: st, w) Q ↔ cf_wp T_P_pairs (79, [l0, some (.inl x), l2, l3], st, w) Q := cf_w1 rfl
theorem r_P_pairs_79 {l1 l2 l3 : Option cf_AV} {k : Nat} {st : List cf_AV} {w : cf_Wd} {Q : cf_Rs → Prop} : cf_wp T_P_pairs (79, [some (.inr k), l1, l2, l3], st, w) Q ↔ cf_wp T_P_pairs (80, [some (.inr k), l1, l2, l3], .inr k :: st, w) Q := cf_w1 rfl
theorem r_P_pairs_80 {l0 l1 l2 l3 : Option cf_AV} {st : List cf_AV} {w : cf_Wd} {Q : cf_Rs → Prop} : cf_wp T_P_pairs (80, [l0, l1, l2, l3], .inr 15 :: st, w) Q ↔ cf_wp T_P_pairs (83, [l0, l1, l2, l3], .inr 23 :: st, w) Q := cf_w1 rfl
theorem r_P_pairs_83 {l0 l1 l2 : Option cf_AV} {x : Int32} {st : List cf_AV} {w : cf_Wd} {Q : cf_Rs → Prop} : cf_wp T_P_pairs (83, [l0, l1, l2, some (.inl x)], st, w) Q ↔ cf_wp T_P_pairs (84, [l0, l1, l2, some (.inl x)], .inl x :: st, w) Q := cf_w1 rfl
theorem r_P_pairs_84 {l1 l2 l3 : Option cf_AV} {k : Nat} {st : List cf_AV} {w : cf_Wd} {Q : cf_Rs → Prop} : cf_wp T_P_pairs (84, [some (.inr k), l1, l2, l3], st, w) Q ↔ cf_wp T_P_pairs (85, [some (.inr k), l1, l2, l3], .inr k :: st, w) Q := cf_w1 rfl
theorem r_P_pairs_85 {l0 l1 l2 l3 : Option cf_AV} {st : List cf_AV} {w : cf_Wd} {Q : cf_Rs → Prop} : cf_wp T_P_pairs (85, [l0, l1, l2, l3], .inr 15 :: st, w) Q ↔ cf_wp T_P_pairs (88, [l0, l1, l2, l3], .inr 24 :: st, w) Q := cf_w1 rfl
theorem r_P_pairs_88 {l0 l2 l3 : Option cf_AV} {x : Int32} {st : List cf_AV} {w : cf_Wd} {Q : cf_Rs → Prop} : cf_wp T_P_pairs (88, [l0, some (.inl x), l2, l3], st, w) Q ↔ cf_wp T_P_pairs (89, [l0, some (.inl x), l2, l3], .inl x :: st, w) Q := cf_w1 rfl
theorem r_P_pairs_89 {l0 l1 l2 l3 : Option cf_AV} {i : Int32} {st : List cf_AV} {w : cf_Wd} {Q : cf_Rs → Prop} : cf_wp T_P_pairs (89, [l0, l1, l2, l3], .inl i :: .inr 24 :: st, w) Q ↔ (cf_in i 8 = true ∧ cf_wp T_P_pairs (90, [l0, l1, l2, l3], .inl (w 24 i.toNatClampNeg) :: st, w) Q) := cf_wg rfl
theorem r_P_pairs_90 {l0 l1 l2 l3 : Option cf_AV} {x i : Int32} {st : List cf_AV} {w : cf_Wd} {Q : cf_Rs → Prop} : cf_wp T_P_pairs (90, [l0, l1, l2, l3], .inl x :: .inl i :: .inr 23 :: st, w) Q ↔ (cf_in i 8 = true ∧ cf_wp T_P_pairs (91, [l0, l1, l2, l3], st, (cf_wa w 23 (upd (w 23) i.toNatClampNeg x))) Q) := cf_wg rfl
theorem r_P_pairs_91 {l1 l2 l3 : Option cf_AV} {k : Nat} {st : List cf_AV} {w : cf_Wd} {Q : cf_Rs → Prop} : cf_wp T_P_pairs (91, [some (.inr k), l1, l2, l3], st, w) Q ↔ cf_wp T_P_pairs (92, [some (.inr k), l1, l2, l3], .inr k :: st, w) Q := cf_w1 rfl
theorem r_P_pairs_92 {l0 l1 l2 l3 : Option cf_AV} {st : List cf_AV} {w : cf_Wd} {Q : cf_Rs → Prop} : cf_wp T_P_pairs (92, [l0, l1, l2, l3], .inr 15 :: st, w) Q ↔ cf_wp T_P_pairs (95, [l0, l1, l2, l3], .inr 23 :: st, w) Q := cf_w1 rfl
theorem r_P_pairs_95 {l1 l2 l3 : Option cf_AV} {k : Nat} {st : List cf_AV} {w : cf_Wd} {Q : cf_Rs → Prop} : cf_wp T_P_pairs (95, [some (.inr k), l1, l2, l3], st, w) Q ↔ cf_wp T_P_pairs (96, [some (.inr k), l1, l2, l3], .inr k :: st, w) Q := cf_w1 rfl
theorem r_P_pairs_96 {l0 l1 l2 l3 : Option cf_AV} {st : List cf_AV} {w : cf_Wd} {Q : cf_Rs → Prop} : cf_wp T_P_pairs (96, [l0, l1, l2, l3], .inr 15 :: st, w) Q ↔ cf_wp T_P_pairs (99, [l0, l1, l2, l3], .inr 24 :: st, w) Q := cf_w1 rfl
theorem r_P_pairs_99 {l0 l2 l3 : Option cf_AV} {x : Int32} {st : List cf_AV} {w : cf_Wd} {Q : cf_Rs → Prop} : cf_wp T_P_pairs (99, [l0, some (.inl x), l2, l3], st, w) Q ↔ cf_wp T_P_pairs (100, [l0, some (.inl x), l2, l3], .inl x :: st, w) Q := cf_w1 rfl
theorem r_P_pairs_100 {l0 l1 l2 l3 : Option cf_AV} {i : Int32} {st : List cf_AV} {w : cf_Wd} {Q : cf_Rs → Prop} : cf_wp T_P_pairs (100, [l0, l1, l2, l3], .inl i :: .inr 24 :: st, w) Q ↔ (cf_in i 8 = true ∧ cf_wp T_P_pairs (101, [l0, l1, l2, l3], .inl (w 24 i.toNatClampNeg) :: st, w) Q) := cf_wg rfl
theorem r_P_pairs_101 {l0 l1 l2 : Option cf_AV} {x : Int32} {st : List cf_AV} {w : cf_Wd} {Q : cf_Rs → Prop} : cf_wp T_P_pairs (101, [l0, l1, l2, some (.inl x)], st, w) Q ↔ cf_wp T_P_pairs (102, [l0, l1, l2, some (.inl x)], .inl x :: st, w) Q := cf_w1 rfl
theorem r_P_pairs_102 {l0 l1 l2 l3 : Option cf_AV} {x i : Int32} {st : List cf_AV} {w : cf_Wd} {Q : cf_Rs → Prop} : cf_wp T_P_pairs (102, [l0, l1, l2, l3], .inl x :: .inl i :: .inr 23 :: st, w) Q ↔ (cf_in i 8 = true ∧ cf_wp T_P_pairs (103, [l0, l1, l2, l3], st, (cf_wa w 23 (upd (w 23) i.toNatClampNeg x))) Q) := cf_wg rfl
theorem r_P_pairs_103 {l0 l1 l2 : Option cf_AV} {x : Int32} {st : List cf_AV} {w : cf_Wd} {Q : cf_Rs → Prop} : cf_wp T_P_pairs (103, [l0, l1, l2, some (.inl x)], st, w) Q ↔ cf_wp T_P_pairs (106, [l0, l1, l2, some (.inl (x + 1))], st, w) Q := cf_w1 rfl
theorem r_P_pairs_106 {l0 l1 l2 l3 : Option cf_AV} {st : List cf_AV} {w : cf_Wd} {Q : cf_Rs → Prop} : cf_wp T_P_pairs (106, [l0, l1, l2, l3], st, w) Q ↔ cf_wp T_P_pairs (6, [l0, l1, l2, l3], st, w) Q := cf_w1 rfl
theorem r_P_pairs_109 {l0 l1 l3 : Option cf_AV} {x : Int32} {st : List cf_AV} {w : cf_Wd} {Q : cf_Rs → Prop} : cf_wp T_P_pairs (109, [l0, l1, some (.inl x), l3], st, w) Q ↔ cf_wp T_P_pairs (110, [l0, l1, some (.inl x), l3], .inl x :: st, w) Q := cf_w1 rfl
theorem r_P_pairs_110 {l0 l1 l2 l3 : Option cf_AV} {x : Int32} {st : List cf_AV} {w : cf_Wd} {Q : cf_Rs → Prop} : cf_wp T_P_pairs (110, [l0, l1, l2, l3], .inl x :: st, w) Q ↔ (if x = 0 then cf_wp T_P_pairs (121, [l0, l1, l2, l3], st, w) Q else cf_wp T_P_pairs (113, [l0, l1, l2, l3], st, w) Q) := cf_wi rfl
theorem r_P_pairs_113 {l0 l2 l3 : Option cf_AV} {x : Int32} {st : List cf_AV} {w : cf_Wd} {Q : cf_Rs → Prop} : cf_wp T_P_pairs (113, [l0, some (.inl x), l2, l3], st, w) Q ↔ cf_wp T_P_pairs (114, [l0, some (.inl x), l2, l3], .inl x :: st, w) Q := cf_w1 rfl
theorem r_P_pairs_114 {l0 l1 l2 l3 : Option cf_AV} {x : Int32} {st : List cf_AV} {w : cf_Wd} {Q : cf_Rs → Prop} : cf_wp T_P_pairs (114, [l0, l1, l2, l3], .inl x :: st, w) Q ↔ (if ¬ x = 0 then cf_wp T_P_pairs (121, [l0, l1, l2, l3], st, w) Q else cf_wp T_P_pairs (117, [l0, l1, l2, l3], st, w) Q) := cf_wi rfl
theorem r_P_pairs_117 {l0 l1 l2 l3 : Option cf_AV} {st : List cf_AV} {w : cf_Wd} {Q : cf_Rs → Prop} : cf_wp T_P_pairs (117, [l0, l1, l2, l3], st, w) Q ↔ cf_wp T_P_pairs (118, [l0, l1, l2, l3], .inl 1 :: st, w) Q := cf_w1 rfl
theorem r_P_pairs_118 {l0 l1 l2 l3 : Option cf_AV} {st : List cf_AV} {w : cf_Wd} {Q : cf_Rs → Prop} : cf_wp T_P_pairs (118, [l0, l1, l2, l3], st, w) Q ↔ cf_wp T_P_pairs (122, [l0, l1, l2, l3], st, w) Q := cf_w1 rfl
theorem r_P_pairs_121 {l0 l1 l2 l3 : Option cf_AV} {st : List cf_AV} {w : cf_Wd} {Q : cf_Rs → Prop} : cf_wp T_P_pairs (121, [l0, l1, l2, l3], st, w) Q ↔ cf_wp T_P_pairs (122, [l0, l1, l2, l3], .inl 0 :: st, w) Q := cf_w1 rfl
theorem r_P_pairs_122 {l0 l1 l2 l3 : Option cf_AV} {x : Int32} {w : cf_Wd} {P : Int32 → cf_Wd → Prop} : cf_wp T_P_pairs (122, [l0, l1, l2, l3], [.inl x], w) (cf_qb P) ↔ ((x = 0 ∨ x = 1) ∧ P x w) := Iff.trans (cf_wr (q := (some (.inl x), w)) rfl) Iff.rfl
theorem e_P_pairs {w : cf_Wd} {P : Int32 → cf_Wd → Prop} (h : cf_wp T_P_pairs (0, [some (.inr 15), none, none, none], [], w) (cf_qb P)) : ∃ x w1, F_P_pairs [.inr 15] w = some (some (.inl x), w1) ∧ P x w1 := cf_eb rfl (Nat.le_of_ble_eq_true rfl) h
noncomputable def T_P_isSet (pc : Nat) : cf_Rw := bif Nat.ble pc 30 then
 (bif Nat.ble pc 13 then
  (bif Nat.ble pc 5 then
   (bif Nat.ble pc 1 then
    (bif Nat.ble pc 0 then
     (bif Nat.beq pc 0 then cf_iload 1 1 else cf_stuck)
     else
     (bif Nat.beq pc 1 then cf_ifne 8 4 else cf_stuck))
    else
    (bif Nat.ble pc 4 then
     (bif Nat.beq pc 4 then cf_const 1 5 else cf_stuck)
     else
     (bif Nat.beq pc 5 then cf_goto 9 else cf_stuck)))
   else
   (bif Nat.ble pc 9 then
    (bif Nat.ble pc 8 then
     (bif Nat.beq pc 8 then cf_const 0 9 else cf_stuck)
     else
     (bif Nat.beq pc 9 then cf_istore 3 10 else cf_stuck))
    else
    (bif Nat.ble pc 10 then
     (bif Nat.beq pc 10 then cf_const 0 11 else cf_stuck)
     else
     (bif Nat.ble pc 11 then
      (bif Nat.beq pc 11 then cf_istore 4 13 else cf_stuck)
      else
      (bif Nat.beq pc 13 then cf_iload 4 15 else cf_stuck)))))
  else
  (bif Nat.ble pc 20 then
   (bif Nat.ble pc 16 then
    (bif Nat.ble pc 15 then
     (bif Nat.beq pc 15 then cf_iload 2 16 else cf_stuck)
     else
     (bif Nat.beq pc 16 then cf_icge 66 19 else cf_stuck))
    else
    (bif Nat.ble pc 19 then
     (bif Nat.beq pc 19 then cf_iload 3 20 else cf_stuck)
     else
     (bif Nat.beq pc 20 then cf_ifne 54 23 else cf_stuck)))
   else
   (bif Nat.ble pc 24 then
    (bif Nat.ble pc 23 then
     (bif Nat.beq pc 23 then cf_aload 0 24 else cf_stuck)
     else
     (bif Nat.beq pc 24 then cf_iload 4 26 else cf_stuck))
    else
    (bif Nat.ble pc 26 then
     (bif Nat.beq pc 26 then cf_call 2 F_P_operation 29 else cf_stuck)
     else
     (bif Nat.ble pc 29 then
      (bif Nat.beq pc 29 then cf_const 1 30 else cf_stuck)
      else
      (bif Nat.beq pc 30 then cf_iceq 44 33 else cf_stuck))))))
 else
 (bif Nat.ble pc 50 then
  (bif Nat.ble pc 39 then
   (bif Nat.ble pc 34 then
    (bif Nat.ble pc 33 then
     (bif Nat.beq pc 33 then cf_aload 0 34 else cf_stuck)
     else
     (bif Nat.beq pc 34 then cf_iload 4 36 else cf_stuck))
    else
    (bif Nat.ble pc 36 then
     (bif Nat.beq pc 36 then cf_call 2 F_P_operation 39 else cf_stuck)
     else
     (bif Nat.beq pc 39 then cf_const 8 41 else cf_stuck)))
   else
   (bif Nat.ble pc 44 then
    (bif Nat.ble pc 41 then
     (bif Nat.beq pc 41 then cf_icne 58 44 else cf_stuck)
     else
     (bif Nat.beq pc 44 then cf_aload 0 45 else cf_stuck))
    else
    (bif Nat.ble pc 45 then
     (bif Nat.beq pc 45 then cf_iload 4 47 else cf_stuck)
     else
     (bif Nat.ble pc 47 then
      (bif Nat.beq pc 47 then cf_call 2 F_P_a 50 else cf_stuck)
      else
      (bif Nat.beq pc 50 then cf_iload 1 51 else cf_stuck)))))
  else
  (bif Nat.ble pc 58 then
   (bif Nat.ble pc 54 then
    (bif Nat.ble pc 51 then
     (bif Nat.beq pc 51 then cf_icne 58 54 else cf_stuck)
     else
     (bif Nat.beq pc 54 then cf_const 1 55 else cf_stuck))
    else
    (bif Nat.ble pc 55 then
     (bif Nat.beq pc 55 then cf_goto 59 else cf_stuck)
     else
     (bif Nat.beq pc 58 then cf_const 0 59 else cf_stuck)))
   else
   (bif Nat.ble pc 60 then
    (bif Nat.ble pc 59 then
     (bif Nat.beq pc 59 then cf_istore 3 60 else cf_stuck)
     else
     (bif Nat.beq pc 60 then cf_iinc 4 1 63 else cf_stuck))
    else
    (bif Nat.ble pc 63 then
     (bif Nat.beq pc 63 then cf_goto 13 else cf_stuck)
     else
     (bif Nat.ble pc 66 then
      (bif Nat.beq pc 66 then cf_iload 3 67 else cf_stuck)
      else
      (bif Nat.beq pc 67 then cf_iret else cf_stuck))))))
noncomputable def F_P_isSet : List cf_AV → cf_Wd → Option cf_Rs := cf_F T_P_isSet 5 (some .boolean) (cf_shV 15 2)
theorem r_P_isSet_0 {l0 l2 l3 l4 : Option cf_AV} {x : Int32} {st : List cf_AV} {w : cf_Wd} {Q : cf_Rs → Prop} : cf_wp T_P_isSet (0, [l0, some (.inl x), l2, l3, l4], st, w) Q ↔ cf_wp T_P_isSet (1, [l0, some (.inl x), l2, l3, l4], .inl x :: st, w) Q := cf_w1 rfl
theorem r_P_isSet_1 {l0 l1 l2 l3 l4 : Option cf_AV} {x : Int32} {st : List cf_AV} {w : cf_Wd} {Q : cf_Rs → Prop} : cf_wp T_P_isSet (1, [l0, l1, l2, l3, l4], .inl x :: st, w) Q ↔ (if ¬ x = 0 then cf_wp T_P_isSet (8, [l0, l1, l2, l3, l4], st, w) Q else cf_wp T_P_isSet (4, [l0, l1, l2, l3, l4], st, w) Q) := cf_wi rfl
theorem r_P_isSet_4 {l0 l1 l2 l3 l4 : Option cf_AV} {st : List cf_AV} {w : cf_Wd} {Q : cf_Rs → Prop} : cf_wp T_P_isSet (4, [l0, l1, l2, l3, l4], st, w) Q ↔ cf_wp T_P_isSet (5, [l0, l1, l2, l3, l4], .inl 1 :: st, w) Q := cf_w1 rfl
theorem r_P_isSet_5 {l0 l1 l2 l3 l4 : Option cf_AV} {st : List cf_AV} {w : cf_Wd} {Q : cf_Rs → Prop} : cf_wp T_P_isSet (5, [l0, l1, l2, l3, l4], st, w) Q ↔ cf_wp T_P_isSet (9, [l0, l1, l2, l3, l4], st, w) Q := cf_w1 rfl
theorem r_P_isSet_8 {l0 l1 l2 l3 l4 : Option cf_AV} {st : List cf_AV} {w : cf_Wd} {Q : cf_Rs → Prop} : cf_wp T_P_isSet (8, [l0, l1, l2, l3, l4], st, w) Q ↔ cf_wp T_P_isSet (9, [l0, l1, l2, l3, l4], .inl 0 :: st, w) Q := cf_w1 rfl
theorem r_P_isSet_9 {l0 l1 l2 l3 l4 : Option cf_AV} {x : Int32} {st : List cf_AV} {w : cf_Wd} {Q : cf_Rs → Prop} : cf_wp T_P_isSet (9, [l0, l1, l2, l3, l4], .inl x :: st, w) Q ↔ cf_wp T_P_isSet (10, [l0, l1, l2, some (.inl x), l4], st, w) Q := cf_w1 rfl
theorem r_P_isSet_10 {l0 l1 l2 l3 l4 : Option cf_AV} {st : List cf_AV} {w : cf_Wd} {Q : cf_Rs → Prop} : cf_wp T_P_isSet (10, [l0, l1, l2, l3, l4], st, w) Q ↔ cf_wp T_P_isSet (11, [l0, l1, l2, l3, l4], .inl 0 :: st, w) Q := cf_w1 rfl
theorem r_P_isSet_11 {l0 l1 l2 l3 l4 : Option cf_AV} {x : Int32} {st : List cf_AV} {w : cf_Wd} {Q : cf_Rs → Prop} : cf_wp T_P_isSet (11, [l0, l1, l2, l3, l4], .inl x :: st, w) Q ↔ cf_wp T_P_isSet (13, [l0, l1, l2, l3, some (.inl x)], st, w) Q := cf_w1 rfl
theorem r_P_isSet_13 {l0 l1 l2 l3 : Option cf_AV} {x : Int32} {st : List cf_AV} {w : cf_Wd} {Q : cf_Rs → Prop} : cf_wp T_P_isSet (13, [l0, l1, l2, l3, some (.inl x)], st, w) Q ↔ cf_wp T_P_isSet (15, [l0, l1, l2, l3, some (.inl x)], .inl x :: st, w) Q := cf_w1 rfl
theorem r_P_isSet_15 {l0 l1 l3 l4 : Option cf_AV} {x : Int32} {st : List cf_AV} {w : cf_Wd} {Q : cf_Rs → Prop} : cf_wp T_P_isSet (15, [l0, l1, some (.inl x), l3, l4], st, w) Q ↔ cf_wp T_P_isSet (16, [l0, l1, some (.inl x), l3, l4], .inl x :: st, w) Q := cf_w1 rfl
theorem r_P_isSet_16 {l0 l1 l2 l3 l4 : Option cf_AV} {x y : Int32} {st : List cf_AV} {w : cf_Wd} {Q : cf_Rs → Prop} : cf_wp T_P_isSet (16, [l0, l1, l2, l3, l4], .inl y :: .inl x :: st, w) Q ↔ (if y ≤ x then cf_wp T_P_isSet (66, [l0, l1, l2, l3, l4], st, w) Q else cf_wp T_P_isSet (19, [l0, l1, l2, l3, l4], st, w) Q) := cf_wi rfl
theorem r_P_isSet_19 {l0 l1 l2 l4 : Option cf_AV} {x : Int32} {st : List cf_AV} {w : cf_Wd} {Q : cf_Rs → Prop} : cf_wp T_P_isSet (19, [l0, l1, l2, some (.inl x), l4], st, w) Q ↔ cf_wp T_P_isSet (20, [l0, l1, l2, some (.inl x), l4], .inl x :: st, w) Q := cf_w1 rfl
theorem r_P_isSet_20 {l0 l1 l2 l3 l4 : Option cf_AV} {x : Int32} {st : List cf_AV} {w : cf_Wd} {Q : cf_Rs → Prop} : cf_wp T_P_isSet (20, [l0, l1, l2, l3, l4], .inl x :: st, w) Q ↔ (if ¬ x = 0 then cf_wp T_P_isSet (54, [l0, l1, l2, l3, l4], st, w) Q else cf_wp T_P_isSet (23, [l0, l1, l2, l3, l4], st, w) Q) := cf_wi rfl
theorem r_P_isSet_23 {l1 l2 l3 l4 : Option cf_AV} {k : Nat} {st : List cf_AV} {w : cf_Wd} {Q : cf_Rs → Prop} : cf_wp T_P_isSet (23, [some (.inr k), l1, l2, l3, l4], st, w) Q ↔ cf_wp T_P_isSet (24, [some (.inr k), l1, l2, l3, l4], .inr k :: st, w) Q := cf_w1 rfl
theorem r_P_isSet_24 {l0 l1 l2 l3 : Option cf_AV} {x : Int32} {st : List cf_AV} {w : cf_Wd} {Q : cf_Rs → Prop} : cf_wp T_P_isSet (24, [l0, l1, l2, l3, some (.inl x)], st, w) Q ↔ cf_wp T_P_isSet (26, [l0, l1, l2, l3, some (.inl x)], .inl x :: st, w) Q := cf_w1 rfl
theorem r_P_isSet_26 {l0 l1 l2 l3 l4 : Option cf_AV} {a1 : Int32} {w : cf_Wd} {Q : cf_Rs → Prop} : cf_wp T_P_isSet (26, [l0, l1, l2, l3, l4], [.inl a1, .inr 15], w) Q ↔ ∃ x w1, F_P_operation [.inr 15, .inl a1] w = some (some (.inl x), w1) ∧ cf_wp T_P_isSet (29, [l0, l1, l2, l3, l4], [.inl x], w1) Q := cf_wci (n := 2) (F := F_P_operation) (nx := 29) rfl rfl cf_F_i
theorem c_P_isSet_26 {l0 l1 l2 l3 l4 : Option cf_AV} {a1 : Int32} {x1 : Int32} {w1 : cf_Wd} {w : cf_Wd} {Q : cf_Rs → Prop} (hs : F_P_operation [.inr 15, .inl a1] w = some (some (.inl x1), w1)) : cf_wp T_P_isSet (26, [l0, l1, l2, l3, l4], [.inl a1, .inr 15], w) Q ↔ cf_wp T_P_isSet (29, [l0, l1, l2, l3, l4], [.inl x1], w1) Q := r_P_isSet_26.trans (cf_xi hs)
theorem r_P_isSet_29 {l0 l1 l2 l3 l4 : Option cf_AV} {st : List cf_AV} {w : cf_Wd} {Q : cf_Rs → Prop} : cf_wp T_P_isSet (29, [l0, l1, l2, l3, l4], st, w) Q ↔ cf_wp T_P_isSet (30, [l0, l1, l2, l3, l4], .inl 1 :: st, w) Q := cf_w1 rfl
theorem r_P_isSet_30 {l0 l1 l2 l3 l4 : Option cf_AV} {x y : Int32} {st : List cf_AV} {w : cf_Wd} {Q : cf_Rs → Prop} : cf_wp T_P_isSet (30, [l0, l1, l2, l3, l4], .inl y :: .inl x :: st, w) Q ↔ (if x = y then cf_wp T_P_isSet (44, [l0, l1, l2, l3, l4], st, w) Q else cf_wp T_P_isSet (33, [l0, l1, l2, l3, l4], st, w) Q) := cf_wi rfl
theorem r_P_isSet_33 {l1 l2 l3 l4 : Option cf_AV} {k : Nat} {st : List cf_AV} {w : cf_Wd} {Q : cf_Rs → Prop} : cf_wp T_P_isSet (33, [some (.inr k), l1, l2, l3, l4], st, w) Q ↔ cf_wp T_P_isSet (34, [some (.inr k), l1, l2, l3, l4], .inr k :: st, w) Q := cf_w1 rfl
theorem r_P_isSet_34 {l0 l1 l2 l3 : Option cf_AV} {x : Int32} {st : List cf_AV} {w : cf_Wd} {Q : cf_Rs → Prop} : cf_wp T_P_isSet (34, [l0, l1, l2, l3, some (.inl x)], st, w) Q ↔ cf_wp T_P_isSet (36, [l0, l1, l2, l3, some (.inl x)], .inl x :: st, w) Q := cf_w1 rfl
theorem r_P_isSet_36 {l0 l1 l2 l3 l4 : Option cf_AV} {a1 : Int32} {w : cf_Wd} {Q : cf_Rs → Prop} : cf_wp T_P_isSet (36, [l0, l1, l2, l3, l4], [.inl a1, .inr 15], w) Q ↔ ∃ x w1, F_P_operation [.inr 15, .inl a1] w = some (some (.inl x), w1) ∧ cf_wp T_P_isSet (39, [l0, l1, l2, l3, l4], [.inl x], w1) Q := cf_wci (n := 2) (F := F_P_operation) (nx := 39) rfl rfl cf_F_i
theorem c_P_isSet_36 {l0 l1 l2 l3 l4 : Option cf_AV} {a1 : Int32} {x1 : Int32} {w1 : cf_Wd} {w : cf_Wd} {Q : cf_Rs → Prop} (hs : F_P_operation [.inr 15, .inl a1] w = some (some (.inl x1), w1)) : cf_wp T_P_isSet (36, [l0, l1, l2, l3, l4], [.inl a1, .inr 15], w) Q ↔ cf_wp T_P_isSet (39, [l0, l1, l2, l3, l4], [.inl x1], w1) Q := r_P_isSet_36.trans (cf_xi hs)
theorem r_P_isSet_39 {l0 l1 l2 l3 l4 : Option cf_AV} {st : List cf_AV} {w : cf_Wd} {Q : cf_Rs → Prop} : cf_wp T_P_isSet (39, [l0, l1, l2, l3, l4], st, w) Q ↔ cf_wp T_P_isSet (41, [l0, l1, l2, l3, l4], .inl 8 :: st, w) Q := cf_w1 rfl
theorem r_P_isSet_41 {l0 l1 l2 l3 l4 : Option cf_AV} {x y : Int32} {st : List cf_AV} {w : cf_Wd} {Q : cf_Rs → Prop} : cf_wp T_P_isSet (41, [l0, l1, l2, l3, l4], .inl y :: .inl x :: st, w) Q ↔ (if ¬ x = y then cf_wp T_P_isSet (58, [l0, l1, l2, l3, l4], st, w) Q else cf_wp T_P_isSet (44, [l0, l1, l2, l3, l4], st, w) Q) := cf_wi rfl
theorem r_P_isSet_44 {l1 l2 l3 l4 : Option cf_AV} {k : Nat} {st : List cf_AV} {w : cf_Wd} {Q : cf_Rs → Prop} : cf_wp T_P_isSet (44, [some (.inr k), l1, l2, l3, l4], st, w) Q ↔ cf_wp T_P_isSet (45, [some (.inr k), l1, l2, l3, l4], .inr k :: st, w) Q := cf_w1 rfl
theorem r_P_isSet_45 {l0 l1 l2 l3 : Option cf_AV} {x : Int32} {st : List cf_AV} {w : cf_Wd} {Q : cf_Rs → Prop} : cf_wp T_P_isSet (45, [l0, l1, l2, l3, some (.inl x)], st, w) Q ↔ cf_wp T_P_isSet (47, [l0, l1, l2, l3, some (.inl x)], .inl x :: st, w) Q := cf_w1 rfl
theorem r_P_isSet_47 {l0 l1 l2 l3 l4 : Option cf_AV} {a1 : Int32} {w : cf_Wd} {Q : cf_Rs → Prop} : cf_wp T_P_isSet (47, [l0, l1, l2, l3, l4], [.inl a1, .inr 15], w) Q ↔ ∃ x w1, F_P_a [.inr 15, .inl a1] w = some (some (.inl x), w1) ∧ cf_wp T_P_isSet (50, [l0, l1, l2, l3, l4], [.inl x], w1) Q := cf_wci (n := 2) (F := F_P_a) (nx := 50) rfl rfl cf_F_i
theorem c_P_isSet_47 {l0 l1 l2 l3 l4 : Option cf_AV} {a1 : Int32} {x1 : Int32} {w1 : cf_Wd} {w : cf_Wd} {Q : cf_Rs → Prop} (hs : F_P_a [.inr 15, .inl a1] w = some (some (.inl x1), w1)) : cf_wp T_P_isSet (47, [l0, l1, l2, l3, l4], [.inl a1, .inr 15], w) Q ↔ cf_wp T_P_isSet (50, [l0, l1, l2, l3, l4], [.inl x1], w1) Q := r_P_isSet_47.trans (cf_xi hs)
theorem r_P_isSet_50 {l0 l2 l3 l4 : Option cf_AV} {x : Int32} {st : List cf_AV} {w : cf_Wd} {Q : cf_Rs → Prop} : cf_wp T_P_isSet (50, [l0, some (.inl x), l2, l3, l4], st, w) Q ↔ cf_wp T_P_isSet (51, [l0, some (.inl x), l2, l3, l4], .inl x :: st, w) Q := cf_w1 rfl
theorem r_P_isSet_51 {l0 l1 l2 l3 l4 : Option cf_AV} {x y : Int32} {st : List cf_AV} {w : cf_Wd} {Q : cf_Rs → Prop} : cf_wp T_P_isSet (51, [l0, l1, l2, l3, l4], .inl y :: .inl x :: st, w) Q ↔ (if ¬ x = y then cf_wp T_P_isSet (58, [l0, l1, l2, l3, l4], st, w) Q else cf_wp T_P_isSet (54, [l0, l1, l2, l3, l4], st, w) Q) := cf_wi rfl
theorem r_P_isSet_54 {l0 l1 l2 l3 l4 : Option cf_AV} {st : List cf_AV} {w : cf_Wd} {Q : cf_Rs → Prop} : cf_wp T_P_isSet (54, [l0, l1, l2, l3, l4], st, w) Q ↔ cf_wp T_P_isSet (55, [l0, l1, l2, l3, l4], .inl 1 :: st, w) Q := cf_w1 rfl
theorem r_P_isSet_55 {l0 l1 l2 l3 l4 : Option cf_AV} {st : List cf_AV} {w : cf_Wd} {Q : cf_Rs → Prop} : cf_wp T_P_isSet (55, [l0, l1, l2, l3, l4], st, w) Q ↔ cf_wp T_P_isSet (59, [l0, l1, l2, l3, l4], st, w) Q := cf_w1 rfl
theorem r_P_isSet_58 {l0 l1 l2 l3 l4 : Option cf_AV} {st : List cf_AV} {w : cf_Wd} {Q : cf_Rs → Prop} : cf_wp T_P_isSet (58, [l0, l1, l2, l3, l4], st, w) Q ↔ cf_wp T_P_isSet (59, [l0, l1, l2, l3, l4], .inl 0 :: st, w) Q := cf_w1 rfl
theorem r_P_isSet_59 {l0 l1 l2 l3 l4 : Option cf_AV} {x : Int32} {st : List cf_AV} {w : cf_Wd} {Q : cf_Rs → Prop} : cf_wp T_P_isSet (59, [l0, l1, l2, l3, l4], .inl x :: st, w) Q ↔ cf_wp T_P_isSet (60, [l0, l1, l2, some (.inl x), l4], st, w) Q := cf_w1 rfl
theorem r_P_isSet_60 {l0 l1 l2 l3 : Option cf_AV} {x : Int32} {st : List cf_AV} {w : cf_Wd} {Q : cf_Rs → Prop} : cf_wp T_P_isSet (60, [l0, l1, l2, l3, some (.inl x)], st, w) Q ↔ cf_wp T_P_isSet (63, [l0, l1, l2, l3, some (.inl (x + 1))], st, w) Q := cf_w1 rfl
theorem r_P_isSet_63 {l0 l1 l2 l3 l4 : Option cf_AV} {st : List cf_AV} {w : cf_Wd} {Q : cf_Rs → Prop} : cf_wp T_P_isSet (63, [l0, l1, l2, l3, l4], st, w) Q ↔ cf_wp T_P_isSet (13, [l0, l1, l2, l3, l4], st, w) Q := cf_w1 rfl
theorem r_P_isSet_66 {l0 l1 l2 l4 : Option cf_AV} {x : Int32} {st : List cf_AV} {w : cf_Wd} {Q : cf_Rs → Prop} : cf_wp T_P_isSet (66, [l0, l1, l2, some (.inl x), l4], st, w) Q ↔ cf_wp T_P_isSet (67, [l0, l1, l2, some (.inl x), l4], .inl x :: st, w) Q := cf_w1 rfl
theorem r_P_isSet_67 {l0 l1 l2 l3 l4 : Option cf_AV} {x : Int32} {w : cf_Wd} {P : Int32 → cf_Wd → Prop} : cf_wp T_P_isSet (67, [l0, l1, l2, l3, l4], [.inl x], w) (cf_qb P) ↔ ((x = 0 ∨ x = 1) ∧ P x w) := Iff.trans (cf_wr (q := (some (.inl x), w)) rfl) Iff.rfl
theorem e_P_isSet {a1 a2 : Int32} {w : cf_Wd} {P : Int32 → cf_Wd → Prop} (h : cf_wp T_P_isSet (0, [some (.inr 15), some (.inl a1), some (.inl a2), none, none], [], w) (cf_qb P)) : ∃ x w1, F_P_isSet [.inr 15, .inl a1, .inl a2] w = some (some (.inl x), w1) ∧ P x w1 := cf_eb rfl (Nat.le_of_ble_eq_true rfl) h
noncomputable def T_P_isBuildable (pc : Nat) : cf_Rw := bif Nat.ble pc 57 then
 (bif Nat.ble pc 25 then
  (bif Nat.ble pc 10 then
   (bif Nat.ble pc 3 then
    (bif Nat.ble pc 1 then
     (bif Nat.ble pc 0 then
      (bif Nat.beq pc 0 then cf_const 1 1 else cf_stuck)
      else
      (bif Nat.beq pc 1 then cf_istore 1 2 else cf_stuck))
     else
     (bif Nat.ble pc 2 then
      (bif Nat.beq pc 2 then cf_const 0 3 else cf_stuck)
      else
      (bif Nat.beq pc 3 then cf_istore 2 4 else cf_stuck)))
    else
    (bif Nat.ble pc 5 then
     (bif Nat.ble pc 4 then
      (bif Nat.beq pc 4 then cf_iload 2 5 else cf_stuck)
      else
      (bif Nat.beq pc 5 then cf_const 8 7 else cf_stuck))
     else
     (bif Nat.ble pc 7 then
      (bif Nat.beq pc 7 then cf_icge 114 10 else cf_stuck)
      else
      (bif Nat.beq pc 10 then cf_aload 0 11 else cf_stuck))))
   else
   (bif Nat.ble pc 16 then
    (bif Nat.ble pc 12 then
     (bif Nat.ble pc 11 then
      (bif Nat.beq pc 11 then cf_iload 2 12 else cf_stuck)
      else
      (bif Nat.beq pc 12 then cf_call 2 F_P_operation 15 else cf_stuck))
     else
     (bif Nat.ble pc 15 then
      (bif Nat.beq pc 15 then cf_istore 3 16 else cf_stuck)
      else
      (bif Nat.beq pc 16 then cf_iload 3 17 else cf_stuck)))
    else
    (bif Nat.ble pc 18 then
     (bif Nat.ble pc 17 then
      (bif Nat.beq pc 17 then cf_const 2 18 else cf_stuck)
      else
      (bif Nat.beq pc 18 then cf_const 5 19 else cf_stuck))
     else
     (bif Nat.ble pc 19 then
      (bif Nat.beq pc 19 then cf_call 3 F_P_in 22 else cf_stuck)
      else
      (bif Nat.ble pc 22 then
       (bif Nat.beq pc 22 then cf_ifne 31 25 else cf_stuck)
       else
       (bif Nat.beq pc 25 then cf_iload 3 26 else cf_stuck))))))
  else
  (bif Nat.ble pc 40 then
   (bif Nat.ble pc 32 then
    (bif Nat.ble pc 28 then
     (bif Nat.ble pc 26 then
      (bif Nat.beq pc 26 then cf_const 7 28 else cf_stuck)
      else
      (bif Nat.beq pc 28 then cf_icne 35 31 else cf_stuck))
     else
     (bif Nat.ble pc 31 then
      (bif Nat.beq pc 31 then cf_const 1 32 else cf_stuck)
      else
      (bif Nat.beq pc 32 then cf_goto 36 else cf_stuck)))
    else
    (bif Nat.ble pc 36 then
     (bif Nat.ble pc 35 then
      (bif Nat.beq pc 35 then cf_const 0 36 else cf_stuck)
      else
      (bif Nat.beq pc 36 then cf_istore 4 38 else cf_stuck))
     else
     (bif Nat.ble pc 38 then
      (bif Nat.beq pc 38 then cf_iload 3 39 else cf_stuck)
      else
      (bif Nat.ble pc 39 then
       (bif Nat.beq pc 39 then cf_const 2 40 else cf_stuck)
       else
       (bif Nat.beq pc 40 then cf_iceq 49 43 else cf_stuck)))))
   else
   (bif Nat.ble pc 49 then
    (bif Nat.ble pc 44 then
     (bif Nat.ble pc 43 then
      (bif Nat.beq pc 43 then cf_iload 3 44 else cf_stuck)
      else
      (bif Nat.beq pc 44 then cf_const 8 46 else cf_stuck))
     else
     (bif Nat.ble pc 46 then
      (bif Nat.beq pc 46 then cf_icne 53 49 else cf_stuck)
      else
      (bif Nat.beq pc 49 then cf_const 1 50 else cf_stuck)))
    else
    (bif Nat.ble pc 53 then
     (bif Nat.ble pc 50 then
      (bif Nat.beq pc 50 then cf_goto 54 else cf_stuck)
      else
      (bif Nat.beq pc 53 then cf_const 0 54 else cf_stuck))
     else
     (bif Nat.ble pc 54 then
      (bif Nat.beq pc 54 then cf_istore 5 56 else cf_stuck)
      else
      (bif Nat.ble pc 56 then
       (bif Nat.beq pc 56 then cf_iload 1 57 else cf_stuck)
       else
       (bif Nat.beq pc 57 then cf_ifeq 106 60 else cf_stuck)))))))
 else
 (bif Nat.ble pc 92 then
  (bif Nat.ble pc 74 then
   (bif Nat.ble pc 66 then
    (bif Nat.ble pc 61 then
     (bif Nat.ble pc 60 then
      (bif Nat.beq pc 60 then cf_iload 3 61 else cf_stuck)
      else
      (bif Nat.beq pc 61 then cf_const 9 63 else cf_stuck))
     else
     (bif Nat.ble pc 63 then
      (bif Nat.beq pc 63 then cf_icge 106 66 else cf_stuck)
      else
      (bif Nat.beq pc 66 then cf_iload 4 68 else cf_stuck)))
    else
    (bif Nat.ble pc 71 then
     (bif Nat.ble pc 68 then
      (bif Nat.beq pc 68 then cf_ifeq 84 71 else cf_stuck)
      else
      (bif Nat.beq pc 71 then cf_aload 0 72 else cf_stuck))
     else
     (bif Nat.ble pc 72 then
      (bif Nat.beq pc 72 then cf_aload 0 73 else cf_stuck)
      else
      (bif Nat.ble pc 73 then
       (bif Nat.beq pc 73 then cf_iload 2 74 else cf_stuck)
       else
       (bif Nat.beq pc 74 then cf_call 2 F_P_a 77 else cf_stuck)))))
   else
   (bif Nat.ble pc 84 then
    (bif Nat.ble pc 78 then
     (bif Nat.ble pc 77 then
      (bif Nat.beq pc 77 then cf_iload 2 78 else cf_stuck)
      else
      (bif Nat.beq pc 78 then cf_call 3 F_P_isSet 81 else cf_stuck))
     else
     (bif Nat.ble pc 81 then
      (bif Nat.beq pc 81 then cf_ifeq 106 84 else cf_stuck)
      else
      (bif Nat.beq pc 84 then cf_iload 5 86 else cf_stuck)))
    else
    (bif Nat.ble pc 89 then
     (bif Nat.ble pc 86 then
      (bif Nat.beq pc 86 then cf_ifeq 102 89 else cf_stuck)
      else
      (bif Nat.beq pc 89 then cf_aload 0 90 else cf_stuck))
     else
     (bif Nat.ble pc 90 then
      (bif Nat.beq pc 90 then cf_aload 0 91 else cf_stuck)
      else
      (bif Nat.ble pc 91 then
       (bif Nat.beq pc 91 then cf_iload 2 92 else cf_stuck)
       else
       (bif Nat.beq pc 92 then cf_call 2 F_P_b 95 else cf_stuck))))))
  else
  (bif Nat.ble pc 111 then
   (bif Nat.ble pc 102 then
    (bif Nat.ble pc 96 then
     (bif Nat.ble pc 95 then
      (bif Nat.beq pc 95 then cf_iload 2 96 else cf_stuck)
      else
      (bif Nat.beq pc 96 then cf_call 3 F_P_isSet 99 else cf_stuck))
     else
     (bif Nat.ble pc 99 then
      (bif Nat.beq pc 99 then cf_ifeq 106 102 else cf_stuck)
      else
      (bif Nat.beq pc 102 then cf_const 1 103 else cf_stuck)))
    else
    (bif Nat.ble pc 106 then
     (bif Nat.ble pc 103 then
      (bif Nat.beq pc 103 then cf_goto 107 else cf_stuck)
      else
      (bif Nat.beq pc 106 then cf_const 0 107 else cf_stuck))
     else
     (bif Nat.ble pc 107 then
      (bif Nat.beq pc 107 then cf_istore 1 108 else cf_stuck)
      else
      (bif Nat.ble pc 108 then
       (bif Nat.beq pc 108 then cf_iinc 2 1 111 else cf_stuck)
       else
       (bif Nat.beq pc 111 then cf_goto 4 else cf_stuck)))))
   else
   (bif Nat.ble pc 119 then
    (bif Nat.ble pc 115 then
     (bif Nat.ble pc 114 then
      (bif Nat.beq pc 114 then cf_iload 1 115 else cf_stuck)
      else
      (bif Nat.beq pc 115 then cf_ifeq 129 118 else cf_stuck))
     else
     (bif Nat.ble pc 118 then
      (bif Nat.beq pc 118 then cf_aload 0 119 else cf_stuck)
      else
      (bif Nat.beq pc 119 then cf_call 1 F_P_pairs 122 else cf_stuck)))
    else
    (bif Nat.ble pc 125 then
     (bif Nat.ble pc 122 then
      (bif Nat.beq pc 122 then cf_ifeq 129 125 else cf_stuck)
      else
      (bif Nat.beq pc 125 then cf_const 1 126 else cf_stuck))
     else
     (bif Nat.ble pc 126 then
      (bif Nat.beq pc 126 then cf_goto 130 else cf_stuck)
      else
      (bif Nat.ble pc 129 then
       (bif Nat.beq pc 129 then cf_const 0 130 else cf_stuck)
       else
       (bif Nat.beq pc 130 then cf_iret else cf_stuck)))))))
noncomputable def F_P_isBuildable : List cf_AV → cf_Wd → Option cf_Rs := cf_F T_P_isBuildable 6 (some .boolean) (cf_shV 15 0)
theorem r_P_isBuildable_0 {l0 l1 l2 l3 l4 l5 : Option cf_AV} {st : List cf_AV} {w : cf_Wd} {Q : cf_Rs → Prop} : cf_wp T_P_isBuildable (0, [l0, l1, l2, l3, l4, l5], st, w) Q ↔ cf_wp T_P_isBuildable (1, [l0, l1, l2, l3, l4, l5], .inl 1 :: st, w) Q := cf_w1 rfl
theorem r_P_isBuildable_1 {l0 l1 l2 l3 l4 l5 : Option cf_AV} {x : Int32} {st : List cf_AV} {w : cf_Wd} {Q : cf_Rs → Prop} : cf_wp T_P_isBuildable (1, [l0, l1, l2, l3, l4, l5], .inl x :: st, w) Q ↔ cf_wp T_P_isBuildable (2, [l0, some (.inl x), l2, l3, l4, l5], st, w) Q := cf_w1 rfl
theorem r_P_isBuildable_2 {l0 l1 l2 l3 l4 l5 : Option cf_AV} {st : List cf_AV} {w : cf_Wd} {Q : cf_Rs → Prop} : cf_wp T_P_isBuildable (2, [l0, l1, l2, l3, l4, l5], st, w) Q ↔ cf_wp T_P_isBuildable (3, [l0, l1, l2, l3, l4, l5], .inl 0 :: st, w) Q := cf_w1 rfl
theorem r_P_isBuildable_3 {l0 l1 l2 l3 l4 l5 : Option cf_AV} {x : Int32} {st : List cf_AV} {w : cf_Wd} {Q : cf_Rs → Prop} : cf_wp T_P_isBuildable (3, [l0, l1, l2, l3, l4, l5], .inl x :: st, w) Q ↔ cf_wp T_P_isBuildable (4, [l0, l1, some (.inl x), l3, l4, l5], st, w) Q := cf_w1 rfl
theorem r_P_isBuildable_4 {l0 l1 l3 l4 l5 : Option cf_AV} {x : Int32} {st : List cf_AV} {w : cf_Wd} {Q : cf_Rs → Prop} : cf_wp T_P_isBuildable (4, [l0, l1, some (.inl x), l3, l4, l5], st, w) Q ↔ cf_wp T_P_isBuildable (5, [l0, l1, some (.inl x), l3, l4, l5], .inl x :: st, w) Q := cf_w1 rfl
theorem r_P_isBuildable_5 {l0 l1 l2 l3 l4 l5 : Option cf_AV} {st : List cf_AV} {w : cf_Wd} {Q : cf_Rs → Prop} : cf_wp T_P_isBuildable (5, [l0, l1, l2, l3, l4, l5], st, w) Q ↔ cf_wp T_P_isBuildable (7, [l0, l1, l2, l3, l4, l5], .inl 8 :: st, w) Q := cf_w1 rfl
theorem r_P_isBuildable_7 {l0 l1 l2 l3 l4 l5 : Option cf_AV} {x y : Int32} {st : List cf_AV} {w : cf_Wd} {Q : cf_Rs → Prop} : cf_wp T_P_isBuildable (7, [l0, l1, l2, l3, l4, l5], .inl y :: .inl x :: st, w) Q ↔ (if y ≤ x then cf_wp T_P_isBuildable (114, [l0, l1, l2, l3, l4, l5], st, w) Q else cf_wp T_P_isBuildable (10, [l0, l1, l2, l3, l4, l5], st, w) Q) := cf_wi rfl
theorem r_P_isBuildable_10 {l1 l2 l3 l4 l5 : Option cf_AV} {k : Nat} {st : List cf_AV} {w : cf_Wd} {Q : cf_Rs → Prop} : cf_wp T_P_isBuildable (10, [some (.inr k), l1, l2, l3, l4, l5], st, w) Q ↔ cf_wp T_P_isBuildable (11, [some (.inr k), l1, l2, l3, l4, l5], .inr k :: st, w) Q := cf_w1 rfl
theorem r_P_isBuildable_11 {l0 l1 l3 l4 l5 : Option cf_AV} {x : Int32} {st : List cf_AV} {w : cf_Wd} {Q : cf_Rs → Prop} : cf_wp T_P_isBuildable (11, [l0, l1, some (.inl x), l3, l4, l5], st, w) Q ↔ cf_wp T_P_isBuildable (12, [l0, l1, some (.inl x), l3, l4, l5], .inl x :: st, w) Q := cf_w1 rfl
theorem r_P_isBuildable_12 {l0 l1 l2 l3 l4 l5 : Option cf_AV} {a1 : Int32} {w : cf_Wd} {Q : cf_Rs → Prop} : cf_wp T_P_isBuildable (12, [l0, l1, l2, l3, l4, l5], [.inl a1, .inr 15], w) Q ↔ ∃ x w1, F_P_operation [.inr 15, .inl a1] w = some (some (.inl x), w1) ∧ cf_wp T_P_isBuildable (15, [l0, l1, l2, l3, l4, l5], [.inl x], w1) Q := cf_wci (n := 2) (F := F_P_operation) (nx := 15) rfl rfl cf_F_i
theorem c_P_isBuildable_12 {l0 l1 l2 l3 l4 l5 : Option cf_AV} {a1 : Int32} {x1 : Int32} {w1 : cf_Wd} {w : cf_Wd} {Q : cf_Rs → Prop} (hs : F_P_operation [.inr 15, .inl a1] w = some (some (.inl x1), w1)) : cf_wp T_P_isBuildable (12, [l0, l1, l2, l3, l4, l5], [.inl a1, .inr 15], w) Q ↔ cf_wp T_P_isBuildable (15, [l0, l1, l2, l3, l4, l5], [.inl x1], w1) Q := r_P_isBuildable_12.trans (cf_xi hs)
theorem r_P_isBuildable_15 {l0 l1 l2 l3 l4 l5 : Option cf_AV} {x : Int32} {st : List cf_AV} {w : cf_Wd} {Q : cf_Rs → Prop} : cf_wp T_P_isBuildable (15, [l0, l1, l2, l3, l4, l5], .inl x :: st, w) Q ↔ cf_wp T_P_isBuildable (16, [l0, l1, l2, some (.inl x), l4, l5], st, w) Q := cf_w1 rfl
theorem r_P_isBuildable_16 {l0 l1 l2 l4 l5 : Option cf_AV} {x : Int32} {st : List cf_AV} {w : cf_Wd} {Q : cf_Rs → Prop} : cf_wp T_P_isBuildable (16, [l0, l1, l2, some (.inl x), l4, l5], st, w) Q ↔ cf_wp T_P_isBuildable (17, [l0, l1, l2, some (.inl x), l4, l5], .inl x :: st, w) Q := cf_w1 rfl
theorem r_P_isBuildable_17 {l0 l1 l2 l3 l4 l5 : Option cf_AV} {st : List cf_AV} {w : cf_Wd} {Q : cf_Rs → Prop} : cf_wp T_P_isBuildable (17, [l0, l1, l2, l3, l4, l5], st, w) Q ↔ cf_wp T_P_isBuildable (18, [l0, l1, l2, l3, l4, l5], .inl 2 :: st, w) Q := cf_w1 rfl
theorem r_P_isBuildable_18 {l0 l1 l2 l3 l4 l5 : Option cf_AV} {st : List cf_AV} {w : cf_Wd} {Q : cf_Rs → Prop} : cf_wp T_P_isBuildable (18, [l0, l1, l2, l3, l4, l5], st, w) Q ↔ cf_wp T_P_isBuildable (19, [l0, l1, l2, l3, l4, l5], .inl 5 :: st, w) Q := cf_w1 rfl
theorem r_P_isBuildable_19 {l0 l1 l2 l3 l4 l5 : Option cf_AV} {a2 a1 a0 : Int32} {w : cf_Wd} {Q : cf_Rs → Prop} : cf_wp T_P_isBuildable (19, [l0, l1, l2, l3, l4, l5], [.inl a2, .inl a1, .inl a0], w) Q ↔ ∃ x w1, F_P_in [.inl a0, .inl a1, .inl a2] w = some (some (.inl x), w1) ∧ cf_wp T_P_isBuildable (22, [l0, l1, l2, l3, l4, l5], [.inl x], w1) Q := cf_wci (n := 3) (F := F_P_in) (nx := 22) rfl rfl cf_F_b
theorem c_P_isBuildable_19 {l0 l1 l2 l3 l4 l5 : Option cf_AV} {a2 a1 a0 : Int32} {x1 : Int32} {w1 : cf_Wd} {w : cf_Wd} {Q : cf_Rs → Prop} (hs : F_P_in [.inl a0, .inl a1, .inl a2] w = some (some (.inl x1), w1)) : cf_wp T_P_isBuildable (19, [l0, l1, l2, l3, l4, l5], [.inl a2, .inl a1, .inl a0], w) Q ↔ cf_wp T_P_isBuildable (22, [l0, l1, l2, l3, l4, l5], [.inl x1], w1) Q := r_P_isBuildable_19.trans (cf_xi hs)
theorem r_P_isBuildable_22 {l0 l1 l2 l3 l4 l5 : Option cf_AV} {x : Int32} {st : List cf_AV} {w : cf_Wd} {Q : cf_Rs → Prop} : cf_wp T_P_isBuildable (22, [l0, l1, l2, l3, l4, l5], .inl x :: st, w) Q ↔ (if ¬ x = 0 then cf_wp T_P_isBuildable (31, [l0, l1, l2, l3, l4, l5], st, w) Q else cf_wp T_P_isBuildable (25, [l0, l1, l2, l3, l4, l5], st, w) Q) := cf_wi rfl
theorem r_P_isBuildable_25 {l0 l1 l2 l4 l5 : Option cf_AV} {x : Int32} {st : List cf_AV} {w : cf_Wd} {Q : cf_Rs → Prop} : cf_wp T_P_isBuildable (25, [l0, l1, l2, some (.inl x), l4, l5], st, w) Q ↔ cf_wp T_P_isBuildable (26, [l0, l1, l2, some (.inl x), l4, l5], .inl x :: st, w) Q := cf_w1 rfl
theorem r_P_isBuildable_26 {l0 l1 l2 l3 l4 l5 : Option cf_AV} {st : List cf_AV} {w : cf_Wd} {Q : cf_Rs → Prop} : cf_wp T_P_isBuildable (26, [l0, l1, l2, l3, l4, l5], st, w) Q ↔ cf_wp T_P_isBuildable (28, [l0, l1, l2, l3, l4, l5], .inl 7 :: st, w) Q := cf_w1 rfl
theorem r_P_isBuildable_28 {l0 l1 l2 l3 l4 l5 : Option cf_AV} {x y : Int32} {st : List cf_AV} {w : cf_Wd} {Q : cf_Rs → Prop} : cf_wp T_P_isBuildable (28, [l0, l1, l2, l3, l4, l5], .inl y :: .inl x :: st, w) Q ↔ (if ¬ x = y then cf_wp T_P_isBuildable (35, [l0, l1, l2, l3, l4, l5], st, w) Q else cf_wp T_P_isBuildable (31, [l0, l1, l2, l3, l4, l5], st, w) Q) := cf_wi rfl
theorem r_P_isBuildable_31 {l0 l1 l2 l3 l4 l5 : Option cf_AV} {st : List cf_AV} {w : cf_Wd} {Q : cf_Rs → Prop} : cf_wp T_P_isBuildable (31, [l0, l1, l2, l3, l4, l5], st, w) Q ↔ cf_wp T_P_isBuildable (32, [l0, l1, l2, l3, l4, l5], .inl 1 :: st, w) Q := cf_w1 rfl
theorem r_P_isBuildable_32 {l0 l1 l2 l3 l4 l5 : Option cf_AV} {st : List cf_AV} {w : cf_Wd} {Q : cf_Rs → Prop} : cf_wp T_P_isBuildable (32, [l0, l1, l2, l3, l4, l5], st, w) Q ↔ cf_wp T_P_isBuildable (36, [l0, l1, l2, l3, l4, l5], st, w) Q := cf_w1 rfl
theorem r_P_isBuildable_35 {l0 l1 l2 l3 l4 l5 : Option cf_AV} {st : List cf_AV} {w : cf_Wd} {Q : cf_Rs → Prop} : cf_wp T_P_isBuildable (35, [l0, l1, l2, l3, l4, l5], st, w) Q ↔ cf_wp T_P_isBuildable (36, [l0, l1, l2, l3, l4, l5], .inl 0 :: st, w) Q := cf_w1 rfl
theorem r_P_isBuildable_36 {l0 l1 l2 l3 l4 l5 : Option cf_AV} {x : Int32} {st : List cf_AV} {w : cf_Wd} {Q : cf_Rs → Prop} : cf_wp T_P_isBuildable (36, [l0, l1, l2, l3, l4, l5], .inl x :: st, w) Q ↔ cf_wp T_P_isBuildable (38, [l0, l1, l2, l3, some (.inl x), l5], st, w) Q := cf_w1 rfl
theorem r_P_isBuildable_38 {l0 l1 l2 l4 l5 : Option cf_AV} {x : Int32} {st : List cf_AV} {w : cf_Wd} {Q : cf_Rs → Prop} : cf_wp T_P_isBuildable (38, [l0, l1, l2, some (.inl x), l4, l5], st, w) Q ↔ cf_wp T_P_isBuildable (39, [l0, l1, l2, some (.inl x), l4, l5], .inl x :: st, w) Q := cf_w1 rfl
theorem r_P_isBuildable_39 {l0 l1 l2 l3 l4 l5 : Option cf_AV} {st : List cf_AV} {w : cf_Wd} {Q : cf_Rs → Prop} : cf_wp T_P_isBuildable (39, [l0, l1, l2, l3, l4, l5], st, w) Q ↔ cf_wp T_P_isBuildable (40, [l0, l1, l2, l3, l4, l5], .inl 2 :: st, w) Q := cf_w1 rfl
theorem r_P_isBuildable_40 {l0 l1 l2 l3 l4 l5 : Option cf_AV} {x y : Int32} {st : List cf_AV} {w : cf_Wd} {Q : cf_Rs → Prop} : cf_wp T_P_isBuildable (40, [l0, l1, l2, l3, l4, l5], .inl y :: .inl x :: st, w) Q ↔ (if x = y then cf_wp T_P_isBuildable (49, [l0, l1, l2, l3, l4, l5], st, w) Q else cf_wp T_P_isBuildable (43, [l0, l1, l2, l3, l4, l5], st, w) Q) := cf_wi rfl
theorem r_P_isBuildable_43 {l0 l1 l2 l4 l5 : Option cf_AV} {x : Int32} {st : List cf_AV} {w : cf_Wd} {Q : cf_Rs → Prop} : cf_wp T_P_isBuildable (43, [l0, l1, l2, some (.inl x), l4, l5], st, w) Q ↔ cf_wp T_P_isBuildable (44, [l0, l1, l2, some (.inl x), l4, l5], .inl x :: st, w) Q := cf_w1 rfl
theorem r_P_isBuildable_44 {l0 l1 l2 l3 l4 l5 : Option cf_AV} {st : List cf_AV} {w : cf_Wd} {Q : cf_Rs → Prop} : cf_wp T_P_isBuildable (44, [l0, l1, l2, l3, l4, l5], st, w) Q ↔ cf_wp T_P_isBuildable (46, [l0, l1, l2, l3, l4, l5], .inl 8 :: st, w) Q := cf_w1 rfl
theorem r_P_isBuildable_46 {l0 l1 l2 l3 l4 l5 : Option cf_AV} {x y : Int32} {st : List cf_AV} {w : cf_Wd} {Q : cf_Rs → Prop} : cf_wp T_P_isBuildable (46, [l0, l1, l2, l3, l4, l5], .inl y :: .inl x :: st, w) Q ↔ (if ¬ x = y then cf_wp T_P_isBuildable (53, [l0, l1, l2, l3, l4, l5], st, w) Q else cf_wp T_P_isBuildable (49, [l0, l1, l2, l3, l4, l5], st, w) Q) := cf_wi rfl
theorem r_P_isBuildable_49 {l0 l1 l2 l3 l4 l5 : Option cf_AV} {st : List cf_AV} {w : cf_Wd} {Q : cf_Rs → Prop} : cf_wp T_P_isBuildable (49, [l0, l1, l2, l3, l4, l5], st, w) Q ↔ cf_wp T_P_isBuildable (50, [l0, l1, l2, l3, l4, l5], .inl 1 :: st, w) Q := cf_w1 rfl
theorem r_P_isBuildable_50 {l0 l1 l2 l3 l4 l5 : Option cf_AV} {st : List cf_AV} {w : cf_Wd} {Q : cf_Rs → Prop} : cf_wp T_P_isBuildable (50, [l0, l1, l2, l3, l4, l5], st, w) Q ↔ cf_wp T_P_isBuildable (54, [l0, l1, l2, l3, l4, l5], st, w) Q := cf_w1 rfl
theorem r_P_isBuildable_53 {l0 l1 l2 l3 l4 l5 : Option cf_AV} {st : List cf_AV} {w : cf_Wd} {Q : cf_Rs → Prop} : cf_wp T_P_isBuildable (53, [l0, l1, l2, l3, l4, l5], st, w) Q ↔ cf_wp T_P_isBuildable (54, [l0, l1, l2, l3, l4, l5], .inl 0 :: st, w) Q := cf_w1 rfl
theorem r_P_isBuildable_54 {l0 l1 l2 l3 l4 l5 : Option cf_AV} {x : Int32} {st : List cf_AV} {w : cf_Wd} {Q : cf_Rs → Prop} : cf_wp T_P_isBuildable (54, [l0, l1, l2, l3, l4, l5], .inl x :: st, w) Q ↔ cf_wp T_P_isBuildable (56, [l0, l1, l2, l3, l4, some (.inl x)], st, w) Q := cf_w1 rfl
theorem r_P_isBuildable_56 {l0 l2 l3 l4 l5 : Option cf_AV} {x : Int32} {st : List cf_AV} {w : cf_Wd} {Q : cf_Rs → Prop} : cf_wp T_P_isBuildable (56, [l0, some (.inl x), l2, l3, l4, l5], st, w) Q ↔ cf_wp T_P_isBuildable (57, [l0, some (.inl x), l2, l3, l4, l5], .inl x :: st, w) Q := cf_w1 rfl
theorem r_P_isBuildable_57 {l0 l1 l2 l3 l4 l5 : Option cf_AV} {x : Int32} {st : List cf_AV} {w : cf_Wd} {Q : cf_Rs → Prop} : cf_wp T_P_isBuildable (57, [l0, l1, l2, l3, l4, l5], .inl x :: st, w) Q ↔ (if x = 0 then cf_wp T_P_isBuildable (106, [l0, l1, l2, l3, l4, l5], st, w) Q else cf_wp T_P_isBuildable (60, [l0, l1, l2, l3, l4, l5], st, w) Q) := cf_wi rfl
theorem r_P_isBuildable_60 {l0 l1 l2 l4 l5 : Option cf_AV} {x : Int32} {st : List cf_AV} {w : cf_Wd} {Q : cf_Rs → Prop} : cf_wp T_P_isBuildable (60, [l0, l1, l2, some (.inl x), l4, l5], st, w) Q ↔ cf_wp T_P_isBuildable (61, [l0, l1, l2, some (.inl x), l4, l5], .inl x :: st, w) Q := cf_w1 rfl
theorem r_P_isBuildable_61 {l0 l1 l2 l3 l4 l5 : Option cf_AV} {st : List cf_AV} {w : cf_Wd} {Q : cf_Rs → Prop} : cf_wp T_P_isBuildable (61, [l0, l1, l2, l3, l4, l5], st, w) Q ↔ cf_wp T_P_isBuildable (63, [l0, l1, l2, l3, l4, l5], .inl 9 :: st, w) Q := cf_w1 rfl
theorem r_P_isBuildable_63 {l0 l1 l2 l3 l4 l5 : Option cf_AV} {x y : Int32} {st : List cf_AV} {w : cf_Wd} {Q : cf_Rs → Prop} : cf_wp T_P_isBuildable (63, [l0, l1, l2, l3, l4, l5], .inl y :: .inl x :: st, w) Q ↔ (if y ≤ x then cf_wp T_P_isBuildable (106, [l0, l1, l2, l3, l4, l5], st, w) Q else cf_wp T_P_isBuildable (66, [l0, l1, l2, l3, l4, l5], st, w) Q) := cf_wi rfl
theorem r_P_isBuildable_66 {l0 l1 l2 l3 l5 : Option cf_AV} {x : Int32} {st : List cf_AV} {w : cf_Wd} {Q : cf_Rs → Prop} : cf_wp T_P_isBuildable (66, [l0, l1, l2, l3, some (.inl x), l5], st, w) Q ↔ cf_wp T_P_isBuildable (68, [l0, l1, l2, l3, some (.inl x), l5], .inl x :: st, w) Q := cf_w1 rfl
theorem r_P_isBuildable_68 {l0 l1 l2 l3 l4 l5 : Option cf_AV} {x : Int32} {st : List cf_AV} {w : cf_Wd} {Q : cf_Rs → Prop} : cf_wp T_P_isBuildable (68, [l0, l1, l2, l3, l4, l5], .inl x :: st, w) Q ↔ (if x = 0 then cf_wp T_P_isBuildable (84, [l0, l1, l2, l3, l4, l5], st, w) Q else cf_wp T_P_isBuildable (71, [l0, l1, l2, l3, l4, l5], st, w) Q) := cf_wi rfl
theorem r_P_isBuildable_71 {l1 l2 l3 l4 l5 : Option cf_AV} {k : Nat} {st : List cf_AV} {w : cf_Wd} {Q : cf_Rs → Prop} : cf_wp T_P_isBuildable (71, [some (.inr k), l1, l2, l3, l4, l5], st, w) Q ↔ cf_wp T_P_isBuildable (72, [some (.inr k), l1, l2, l3, l4, l5], .inr k :: st, w) Q := cf_w1 rfl
theorem r_P_isBuildable_72 {l1 l2 l3 l4 l5 : Option cf_AV} {k : Nat} {st : List cf_AV} {w : cf_Wd} {Q : cf_Rs → Prop} : cf_wp T_P_isBuildable (72, [some (.inr k), l1, l2, l3, l4, l5], st, w) Q ↔ cf_wp T_P_isBuildable (73, [some (.inr k), l1, l2, l3, l4, l5], .inr k :: st, w) Q := cf_w1 rfl
theorem r_P_isBuildable_73 {l0 l1 l3 l4 l5 : Option cf_AV} {x : Int32} {st : List cf_AV} {w : cf_Wd} {Q : cf_Rs → Prop} : cf_wp T_P_isBuildable (73, [l0, l1, some (.inl x), l3, l4, l5], st, w) Q ↔ cf_wp T_P_isBuildable (74, [l0, l1, some (.inl x), l3, l4, l5], .inl x :: st, w) Q := cf_w1 rfl
theorem r_P_isBuildable_74 {l0 l1 l2 l3 l4 l5 : Option cf_AV} {a1 : Int32} {t0 : cf_AV} {w : cf_Wd} {Q : cf_Rs → Prop} : cf_wp T_P_isBuildable (74, [l0, l1, l2, l3, l4, l5], [.inl a1, .inr 15, t0], w) Q ↔ ∃ x w1, F_P_a [.inr 15, .inl a1] w = some (some (.inl x), w1) ∧ cf_wp T_P_isBuildable (77, [l0, l1, l2, l3, l4, l5], [.inl x, t0], w1) Q := cf_wci (n := 2) (F := F_P_a) (nx := 77) rfl rfl cf_F_i
theorem c_P_isBuildable_74 {l0 l1 l2 l3 l4 l5 : Option cf_AV} {a1 : Int32} {t0 : cf_AV} {x1 : Int32} {w1 : cf_Wd} {w : cf_Wd} {Q : cf_Rs → Prop} (hs : F_P_a [.inr 15, .inl a1] w = some (some (.inl x1), w1)) : cf_wp T_P_isBuildable (74, [l0, l1, l2, l3, l4, l5], [.inl a1, .inr 15, t0], w) Q ↔ cf_wp T_P_isBuildable (77, [l0, l1, l2, l3, l4, l5], [.inl x1, t0], w1) Q := r_P_isBuildable_74.trans (cf_xi hs)
theorem r_P_isBuildable_77 {l0 l1 l3 l4 l5 : Option cf_AV} {x : Int32} {st : List cf_AV} {w : cf_Wd} {Q : cf_Rs → Prop} : cf_wp T_P_isBuildable (77, [l0, l1, some (.inl x), l3, l4, l5], st, w) Q ↔ cf_wp T_P_isBuildable (78, [l0, l1, some (.inl x), l3, l4, l5], .inl x :: st, w) Q := cf_w1 rfl
theorem r_P_isBuildable_78 {l0 l1 l2 l3 l4 l5 : Option cf_AV} {a2 a1 : Int32} {w : cf_Wd} {Q : cf_Rs → Prop} : cf_wp T_P_isBuildable (78, [l0, l1, l2, l3, l4, l5], [.inl a2, .inl a1, .inr 15], w) Q ↔ ∃ x w1, F_P_isSet [.inr 15, .inl a1, .inl a2] w = some (some (.inl x), w1) ∧ cf_wp T_P_isBuildable (81, [l0, l1, l2, l3, l4, l5], [.inl x], w1) Q := cf_wci (n := 3) (F := F_P_isSet) (nx := 81) rfl rfl cf_F_b
theorem c_P_isBuildable_78 {l0 l1 l2 l3 l4 l5 : Option cf_AV} {a2 a1 : Int32} {x1 : Int32} {w1 : cf_Wd} {w : cf_Wd} {Q : cf_Rs → Prop} (hs : F_P_isSet [.inr 15, .inl a1, .inl a2] w = some (some (.inl x1), w1)) : cf_wp T_P_isBuildable (78, [l0, l1, l2, l3, l4, l5], [.inl a2, .inl a1, .inr 15], w) Q ↔ cf_wp T_P_isBuildable (81, [l0, l1, l2, l3, l4, l5], [.inl x1], w1) Q := r_P_isBuildable_78.trans (cf_xi hs)
theorem r_P_isBuildable_81 {l0 l1 l2 l3 l4 l5 : Option cf_AV} {x : Int32} {st : List cf_AV} {w : cf_Wd} {Q : cf_Rs → Prop} : cf_wp T_P_isBuildable (81, [l0, l1, l2, l3, l4, l5], .inl x :: st, w) Q ↔ (if x = 0 then cf_wp T_P_isBuildable (106, [l0, l1, l2, l3, l4, l5], st, w) Q else cf_wp T_P_isBuildable (84, [l0, l1, l2, l3, l4, l5], st, w) Q) := cf_wi rfl
theorem r_P_isBuildable_84 {l0 l1 l2 l3 l4 : Option cf_AV} {x : Int32} {st : List cf_AV} {w : cf_Wd} {Q : cf_Rs → Prop} : cf_wp T_P_isBuildable (84, [l0, l1, l2, l3, l4, some (.inl x)], st, w) Q ↔ cf_wp T_P_isBuildable (86, [l0, l1, l2, l3, l4, some (.inl x)], .inl x :: st, w) Q := cf_w1 rfl
theorem r_P_isBuildable_86 {l0 l1 l2 l3 l4 l5 : Option cf_AV} {x : Int32} {st : List cf_AV} {w : cf_Wd} {Q : cf_Rs → Prop} : cf_wp T_P_isBuildable (86, [l0, l1, l2, l3, l4, l5], .inl x :: st, w) Q ↔ (if x = 0 then cf_wp T_P_isBuildable (102, [l0, l1, l2, l3, l4, l5], st, w) Q else cf_wp T_P_isBuildable (89, [l0, l1, l2, l3, l4, l5], st, w) Q) := cf_wi rfl
theorem r_P_isBuildable_89 {l1 l2 l3 l4 l5 : Option cf_AV} {k : Nat} {st : List cf_AV} {w : cf_Wd} {Q : cf_Rs → Prop} : cf_wp T_P_isBuildable (89, [some (.inr k), l1, l2, l3, l4, l5], st, w) Q ↔ cf_wp T_P_isBuildable (90, [some (.inr k), l1, l2, l3, l4, l5], .inr k :: st, w) Q := cf_w1 rfl
theorem r_P_isBuildable_90 {l1 l2 l3 l4 l5 : Option cf_AV} {k : Nat} {st : List cf_AV} {w : cf_Wd} {Q : cf_Rs → Prop} : cf_wp T_P_isBuildable (90, [some (.inr k), l1, l2, l3, l4, l5], st, w) Q ↔ cf_wp T_P_isBuildable (91, [some (.inr k), l1, l2, l3, l4, l5], .inr k :: st, w) Q := cf_w1 rfl
theorem r_P_isBuildable_91 {l0 l1 l3 l4 l5 : Option cf_AV} {x : Int32} {st : List cf_AV} {w : cf_Wd} {Q : cf_Rs → Prop} : cf_wp T_P_isBuildable (91, [l0, l1, some (.inl x), l3, l4, l5], st, w) Q ↔ cf_wp T_P_isBuildable (92, [l0, l1, some (.inl x), l3, l4, l5], .inl x :: st, w) Q := cf_w1 rfl
theorem r_P_isBuildable_92 {l0 l1 l2 l3 l4 l5 : Option cf_AV} {a1 : Int32} {t0 : cf_AV} {w : cf_Wd} {Q : cf_Rs → Prop} : cf_wp T_P_isBuildable (92, [l0, l1, l2, l3, l4, l5], [.inl a1, .inr 15, t0], w) Q ↔ ∃ x w1, F_P_b [.inr 15, .inl a1] w = some (some (.inl x), w1) ∧ cf_wp T_P_isBuildable (95, [l0, l1, l2, l3, l4, l5], [.inl x, t0], w1) Q := cf_wci (n := 2) (F := F_P_b) (nx := 95) rfl rfl cf_F_i
theorem c_P_isBuildable_92 {l0 l1 l2 l3 l4 l5 : Option cf_AV} {a1 : Int32} {t0 : cf_AV} {x1 : Int32} {w1 : cf_Wd} {w : cf_Wd} {Q : cf_Rs → Prop} (hs : F_P_b [.inr 15, .inl a1] w = some (some (.inl x1), w1)) : cf_wp T_P_isBuildable (92, [l0, l1, l2, l3, l4, l5], [.inl a1, .inr 15, t0], w) Q ↔ cf_wp T_P_isBuildable (95, [l0, l1, l2, l3, l4, l5], [.inl x1, t0], w1) Q := r_P_isBuildable_92.trans (cf_xi hs)
theorem r_P_isBuildable_95 {l0 l1 l3 l4 l5 : Option cf_AV} {x : Int32} {st : List cf_AV} {w : cf_Wd} {Q : cf_Rs → Prop} : cf_wp T_P_isBuildable (95, [l0, l1, some (.inl x), l3, l4, l5], st, w) Q ↔ cf_wp T_P_isBuildable (96, [l0, l1, some (.inl x), l3, l4, l5], .inl x :: st, w) Q := cf_w1 rfl
theorem r_P_isBuildable_96 {l0 l1 l2 l3 l4 l5 : Option cf_AV} {a2 a1 : Int32} {w : cf_Wd} {Q : cf_Rs → Prop} : cf_wp T_P_isBuildable (96, [l0, l1, l2, l3, l4, l5], [.inl a2, .inl a1, .inr 15], w) Q ↔ ∃ x w1, F_P_isSet [.inr 15, .inl a1, .inl a2] w = some (some (.inl x), w1) ∧ cf_wp T_P_isBuildable (99, [l0, l1, l2, l3, l4, l5], [.inl x], w1) Q := cf_wci (n := 3) (F := F_P_isSet) (nx := 99) rfl rfl cf_F_b
theorem c_P_isBuildable_96 {l0 l1 l2 l3 l4 l5 : Option cf_AV} {a2 a1 : Int32} {x1 : Int32} {w1 : cf_Wd} {w : cf_Wd} {Q : cf_Rs → Prop} (hs : F_P_isSet [.inr 15, .inl a1, .inl a2] w = some (some (.inl x1), w1)) : cf_wp T_P_isBuildable (96, [l0, l1, l2, l3, l4, l5], [.inl a2, .inl a1, .inr 15], w) Q ↔ cf_wp T_P_isBuildable (99, [l0, l1, l2, l3, l4, l5], [.inl x1], w1) Q := r_P_isBuildable_96.trans (cf_xi hs)
theorem r_P_isBuildable_99 {l0 l1 l2 l3 l4 l5 : Option cf_AV} {x : Int32} {st : List cf_AV} {w : cf_Wd} {Q : cf_Rs → Prop} : cf_wp T_P_isBuildable (99, [l0, l1, l2, l3, l4, l5], .inl x :: st, w) Q ↔ (if x = 0 then cf_wp T_P_isBuildable (106, [l0, l1, l2, l3, l4, l5], st, w) Q else cf_wp T_P_isBuildable (102, [l0, l1, l2, l3, l4, l5], st, w) Q) := cf_wi rfl
theorem r_P_isBuildable_102 {l0 l1 l2 l3 l4 l5 : Option cf_AV} {st : List cf_AV} {w : cf_Wd} {Q : cf_Rs → Prop} : cf_wp T_P_isBuildable (102, [l0, l1, l2, l3, l4, l5], st, w) Q ↔ cf_wp T_P_isBuildable (103, [l0, l1, l2, l3, l4, l5], .inl 1 :: st, w) Q := cf_w1 rfl
theorem r_P_isBuildable_103 {l0 l1 l2 l3 l4 l5 : Option cf_AV} {st : List cf_AV} {w : cf_Wd} {Q : cf_Rs → Prop} : cf_wp T_P_isBuildable (103, [l0, l1, l2, l3, l4, l5], st, w) Q ↔ cf_wp T_P_isBuildable (107, [l0, l1, l2, l3, l4, l5], st, w) Q := cf_w1 rfl
theorem r_P_isBuildable_106 {l0 l1 l2 l3 l4 l5 : Option cf_AV} {st : List cf_AV} {w : cf_Wd} {Q : cf_Rs → Prop} : cf_wp T_P_isBuildable (106, [l0, l1, l2, l3, l4, l5], st, w) Q ↔ cf_wp T_P_isBuildable (107, [l0, l1, l2, l3, l4, l5], .inl 0 :: st, w) Q := cf_w1 rfl
theorem r_P_isBuildable_107 {l0 l1 l2 l3 l4 l5 : Option cf_AV} {x : Int32} {st : List cf_AV} {w : cf_Wd} {Q : cf_Rs → Prop} : cf_wp T_P_isBuildable (107, [l0, l1, l2, l3, l4, l5], .inl x :: st, w) Q ↔ cf_wp T_P_isBuildable (108, [l0, some (.inl x), l2, l3, l4, l5], st, w) Q := cf_w1 rfl
theorem r_P_isBuildable_108 {l0 l1 l3 l4 l5 : Option cf_AV} {x : Int32} {st : List cf_AV} {w : cf_Wd} {Q : cf_Rs → Prop} : cf_wp T_P_isBuildable (108, [l0, l1, some (.inl x), l3, l4, l5], st, w) Q ↔ cf_wp T_P_isBuildable (111, [l0, l1, some (.inl (x + 1)), l3, l4, l5], st, w) Q := cf_w1 rfl
theorem r_P_isBuildable_111 {l0 l1 l2 l3 l4 l5 : Option cf_AV} {st : List cf_AV} {w : cf_Wd} {Q : cf_Rs → Prop} : cf_wp T_P_isBuildable (111, [l0, l1, l2, l3, l4, l5], st, w) Q ↔ cf_wp T_P_isBuildable (4, [l0, l1, l2, l3, l4, l5], st, w) Q := cf_w1 rfl
theorem r_P_isBuildable_114 {l0 l2 l3 l4 l5 : Option cf_AV} {x : Int32} {st : List cf_AV} {w : cf_Wd} {Q : cf_Rs → Prop} : cf_wp T_P_isBuildable (114, [l0, some (.inl x), l2, l3, l4, l5], st, w) Q ↔ cf_wp T_P_isBuildable (115, [l0, some (.inl x), l2, l3, l4, l5], .inl x :: st, w) Q := cf_w1 rfl
theorem r_P_isBuildable_115 {l0 l1 l2 l3 l4 l5 : Option cf_AV} {x : Int32} {st : List cf_AV} {w : cf_Wd} {Q : cf_Rs → Prop} : cf_wp T_P_isBuildable (115, [l0, l1, l2, l3, l4, l5], .inl x :: st, w) Q ↔ (if x = 0 then cf_wp T_P_isBuildable (129, [l0, l1, l2, l3, l4, l5], st, w) Q else cf_wp T_P_isBuildable (118, [l0, l1, l2, l3, l4, l5], st, w) Q) := cf_wi rfl
theorem r_P_isBuildable_118 {l1 l2 l3 l4 l5 : Option cf_AV} {k : Nat} {st : List cf_AV} {w : cf_Wd} {Q : cf_Rs → Prop} : cf_wp T_P_isBuildable (118, [some (.inr k), l1, l2, l3, l4, l5], st, w) Q ↔ cf_wp T_P_isBuildable (119, [some (.inr k), l1, l2, l3, l4, l5], .inr k :: st, w) Q := cf_w1 rfl
theorem r_P_isBuildable_119 {l0 l1 l2 l3 l4 l5 : Option cf_AV} {w : cf_Wd} {Q : cf_Rs → Prop} : cf_wp T_P_isBuildable (119, [l0, l1, l2, l3, l4, l5], [.inr 15], w) Q ↔ ∃ x w1, F_P_pairs [.inr 15] w = some (some (.inl x), w1) ∧ cf_wp T_P_isBuildable (122, [l0, l1, l2, l3, l4, l5], [.inl x], w1) Q := cf_wci (n := 1) (F := F_P_pairs) (nx := 122) rfl rfl cf_F_b
theorem c_P_isBuildable_119 {l0 l1 l2 l3 l4 l5 : Option cf_AV} {x1 : Int32} {w1 : cf_Wd} {w : cf_Wd} {Q : cf_Rs → Prop} (hs : F_P_pairs [.inr 15] w = some (some (.inl x1), w1)) : cf_wp T_P_isBuildable (119, [l0, l1, l2, l3, l4, l5], [.inr 15], w) Q ↔ cf_wp T_P_isBuildable (122, [l0, l1, l2, l3, l4, l5], [.inl x1], w1) Q := r_P_isBuildable_119.trans (cf_xi hs)
theorem r_P_isBuildable_122 {l0 l1 l2 l3 l4 l5 : Option cf_AV} {x : Int32} {st : List cf_AV} {w : cf_Wd} {Q : cf_Rs → Prop} : cf_wp T_P_isBuildable (122, [l0, l1, l2, l3, l4, l5], .inl x :: st, w) Q ↔ (if x = 0 then cf_wp T_P_isBuildable (129, [l0, l1, l2, l3, l4, l5], st, w) Q else cf_wp T_P_isBuildable (125, [l0, l1, l2, l3, l4, l5], st, w) Q) := cf_wi rfl
theorem r_P_isBuildable_125 {l0 l1 l2 l3 l4 l5 : Option cf_AV} {st : List cf_AV} {w : cf_Wd} {Q : cf_Rs → Prop} : cf_wp T_P_isBuildable (125, [l0, l1, l2, l3, l4, l5], st, w) Q ↔ cf_wp T_P_isBuildable (126, [l0, l1, l2, l3, l4, l5], .inl 1 :: st, w) Q := cf_w1 rfl
theorem r_P_isBuildable_126 {l0 l1 l2 l3 l4 l5 : Option cf_AV} {st : List cf_AV} {w : cf_Wd} {Q : cf_Rs → Prop} : cf_wp T_P_isBuildable (126, [l0, l1, l2, l3, l4, l5], st, w) Q ↔ cf_wp T_P_isBuildable (130, [l0, l1, l2, l3, l4, l5], st, w) Q := cf_w1 rfl
theorem r_P_isBuildable_129 {l0 l1 l2 l3 l4 l5 : Option cf_AV} {st : List cf_AV} {w : cf_Wd} {Q : cf_Rs → Prop} : cf_wp T_P_isBuildable (129, [l0, l1, l2, l3, l4, l5], st, w) Q ↔ cf_wp T_P_isBuildable (130, [l0, l1, l2, l3, l4, l5], .inl 0 :: st, w) Q := cf_w1 rfl
theorem r_P_isBuildable_130 {l0 l1 l2 l3 l4 l5 : Option cf_AV} {x : Int32} {w : cf_Wd} {P : Int32 → cf_Wd → Prop} : cf_wp T_P_isBuildable (130, [l0, l1, l2, l3, l4, l5], [.inl x], w) (cf_qb P) ↔ ((x = 0 ∨ x = 1) ∧ P x w) := Iff.trans (cf_wr (q := (some (.inl x), w)) rfl) Iff.rfl
theorem e_P_isBuildable {w : cf_Wd} {P : Int32 → cf_Wd → Prop} (h : cf_wp T_P_isBuildable (0, [some (.inr 15), none, none, none, none, none], [], w) (cf_qb P)) : ∃ x w1, F_P_isBuildable [.inr 15] w = some (some (.inl x), w1) ∧ P x w1 := cf_eb rfl (Nat.le_of_ble_eq_true rfl) h
noncomputable def T_P_run (pc : Nat) : cf_Rw := bif Nat.ble pc 141 then
 (bif Nat.ble pc 68 then
  (bif Nat.ble pc 35 then
   (bif Nat.ble pc 14 then
    (bif Nat.ble pc 8 then
     (bif Nat.ble pc 1 then
      (bif Nat.ble pc 0 then
       (bif Nat.beq pc 0 then cf_aload 0 1 else cf_stuck)
       else
       (bif Nat.beq pc 1 then cf_call 1 F_P_isBuildable 4 else cf_stuck))
      else
      (bif Nat.ble pc 4 then
       (bif Nat.beq pc 4 then cf_ifne 9 7 else cf_stuck)
       else
       (bif Nat.ble pc 7 then
        (bif Nat.beq pc 7 then cf_const 3 8 else cf_stuck)
        else
        (bif Nat.beq pc 8 then cf_iret else cf_stuck))))
     else
     (bif Nat.ble pc 10 then
      (bif Nat.ble pc 9 then
       (bif Nat.beq pc 9 then cf_const 0 10 else cf_stuck)
       else
       (bif Nat.beq pc 10 then cf_istore 2 11 else cf_stuck))
      else
      (bif Nat.ble pc 11 then
       (bif Nat.beq pc 11 then cf_iload 2 12 else cf_stuck)
       else
       (bif Nat.ble pc 12 then
        (bif Nat.beq pc 12 then cf_const 10 14 else cf_stuck)
        else
        (bif Nat.beq pc 14 then cf_icge 38 17 else cf_stuck)))))
    else
    (bif Nat.ble pc 23 then
     (bif Nat.ble pc 18 then
      (bif Nat.ble pc 17 then
       (bif Nat.beq pc 17 then cf_aload 0 18 else cf_stuck)
       else
       (bif Nat.beq pc 18 then cf_get 5 17 21 else cf_stuck))
      else
      (bif Nat.ble pc 21 then
       (bif Nat.beq pc 21 then cf_iload 2 22 else cf_stuck)
       else
       (bif Nat.ble pc 22 then
        (bif Nat.beq pc 22 then cf_iload 2 23 else cf_stuck)
        else
        (bif Nat.beq pc 23 then cf_ifne 30 26 else cf_stuck))))
     else
     (bif Nat.ble pc 30 then
      (bif Nat.ble pc 26 then
       (bif Nat.beq pc 26 then cf_iload 1 27 else cf_stuck)
       else
       (bif Nat.ble pc 27 then
        (bif Nat.beq pc 27 then cf_goto 31 else cf_stuck)
        else
        (bif Nat.beq pc 30 then cf_const 0 31 else cf_stuck)))
      else
      (bif Nat.ble pc 31 then
       (bif Nat.beq pc 31 then cf_iast 32 else cf_stuck)
       else
       (bif Nat.ble pc 32 then
        (bif Nat.beq pc 32 then cf_iinc 2 1 35 else cf_stuck)
        else
        (bif Nat.beq pc 35 then cf_goto 11 else cf_stuck))))))
   else
   (bif Nat.ble pc 51 then
    (bif Nat.ble pc 42 then
     (bif Nat.ble pc 39 then
      (bif Nat.ble pc 38 then
       (bif Nat.beq pc 38 then cf_const 0 39 else cf_stuck)
       else
       (bif Nat.beq pc 39 then cf_istore 2 40 else cf_stuck))
      else
      (bif Nat.ble pc 40 then
       (bif Nat.beq pc 40 then cf_const 0 41 else cf_stuck)
       else
       (bif Nat.ble pc 41 then
        (bif Nat.beq pc 41 then cf_istore 3 42 else cf_stuck)
        else
        (bif Nat.beq pc 42 then cf_iload 2 43 else cf_stuck))))
     else
     (bif Nat.ble pc 48 then
      (bif Nat.ble pc 43 then
       (bif Nat.beq pc 43 then cf_const 8 45 else cf_stuck)
       else
       (bif Nat.ble pc 45 then
        (bif Nat.beq pc 45 then cf_icge 293 48 else cf_stuck)
        else
        (bif Nat.beq pc 48 then cf_iload 3 49 else cf_stuck)))
      else
      (bif Nat.ble pc 49 then
       (bif Nat.beq pc 49 then cf_const 1 50 else cf_stuck)
       else
       (bif Nat.ble pc 50 then
        (bif Nat.beq pc 50 then cf_bin (fun x y => x + y) 51 else cf_stuck)
        else
        (bif Nat.beq pc 51 then cf_istore 3 52 else cf_stuck)))))
    else
    (bif Nat.ble pc 59 then
     (bif Nat.ble pc 53 then
      (bif Nat.ble pc 52 then
       (bif Nat.beq pc 52 then cf_iload 3 53 else cf_stuck)
       else
       (bif Nat.beq pc 53 then cf_const 80 55 else cf_stuck))
      else
      (bif Nat.ble pc 55 then
       (bif Nat.beq pc 55 then cf_icle 60 58 else cf_stuck)
       else
       (bif Nat.ble pc 58 then
        (bif Nat.beq pc 58 then cf_const 2 59 else cf_stuck)
        else
        (bif Nat.beq pc 59 then cf_iret else cf_stuck))))
     else
     (bif Nat.ble pc 62 then
      (bif Nat.ble pc 60 then
       (bif Nat.beq pc 60 then cf_aload 0 61 else cf_stuck)
       else
       (bif Nat.ble pc 61 then
        (bif Nat.beq pc 61 then cf_iload 2 62 else cf_stuck)
        else
        (bif Nat.beq pc 62 then cf_call 2 F_P_operation 65 else cf_stuck)))
      else
      (bif Nat.ble pc 65 then
       (bif Nat.beq pc 65 then cf_istore 4 67 else cf_stuck)
       else
       (bif Nat.ble pc 67 then
        (bif Nat.beq pc 67 then cf_iload 2 68 else cf_stuck)
        else
        (bif Nat.beq pc 68 then cf_const 1 69 else cf_stuck)))))))
  else
  (bif Nat.ble pc 104 then
   (bif Nat.ble pc 84 then
    (bif Nat.ble pc 75 then
     (bif Nat.ble pc 70 then
      (bif Nat.ble pc 69 then
       (bif Nat.beq pc 69 then cf_bin (fun x y => x + y) 70 else cf_stuck)
       else
       (bif Nat.beq pc 70 then cf_istore 5 72 else cf_stuck))
      else
      (bif Nat.ble pc 72 then
       (bif Nat.beq pc 72 then cf_iload 4 74 else cf_stuck)
       else
       (bif Nat.ble pc 74 then
        (bif Nat.beq pc 74 then cf_const 1 75 else cf_stuck)
        else
        (bif Nat.beq pc 75 then cf_icne 93 78 else cf_stuck))))
     else
     (bif Nat.ble pc 79 then
      (bif Nat.ble pc 78 then
       (bif Nat.beq pc 78 then cf_aload 0 79 else cf_stuck)
       else
       (bif Nat.beq pc 79 then cf_get 5 17 82 else cf_stuck))
      else
      (bif Nat.ble pc 82 then
       (bif Nat.beq pc 82 then cf_aload 0 83 else cf_stuck)
       else
       (bif Nat.ble pc 83 then
        (bif Nat.beq pc 83 then cf_iload 2 84 else cf_stuck)
        else
        (bif Nat.beq pc 84 then cf_call 2 F_P_a 87 else cf_stuck)))))
    else
    (bif Nat.ble pc 93 then
     (bif Nat.ble pc 88 then
      (bif Nat.ble pc 87 then
       (bif Nat.beq pc 87 then cf_aload 0 88 else cf_stuck)
       else
       (bif Nat.beq pc 88 then cf_iload 2 89 else cf_stuck))
      else
      (bif Nat.ble pc 89 then
       (bif Nat.beq pc 89 then cf_call 2 F_P_b 92 else cf_stuck)
       else
       (bif Nat.ble pc 92 then
        (bif Nat.beq pc 92 then cf_iast 93 else cf_stuck)
        else
        (bif Nat.beq pc 93 then cf_iload 4 95 else cf_stuck))))
     else
     (bif Nat.ble pc 99 then
      (bif Nat.ble pc 95 then
       (bif Nat.beq pc 95 then cf_const 2 96 else cf_stuck)
       else
       (bif Nat.ble pc 96 then
        (bif Nat.beq pc 96 then cf_icne 130 99 else cf_stuck)
        else
        (bif Nat.beq pc 99 then cf_aload 0 100 else cf_stuck)))
      else
      (bif Nat.ble pc 100 then
       (bif Nat.beq pc 100 then cf_get 5 17 103 else cf_stuck)
       else
       (bif Nat.ble pc 103 then
        (bif Nat.beq pc 103 then cf_aload 0 104 else cf_stuck)
        else
        (bif Nat.beq pc 104 then cf_iload 2 105 else cf_stuck))))))
   else
   (bif Nat.ble pc 123 then
    (bif Nat.ble pc 113 then
     (bif Nat.ble pc 108 then
      (bif Nat.ble pc 105 then
       (bif Nat.beq pc 105 then cf_call 2 F_P_a 108 else cf_stuck)
       else
       (bif Nat.beq pc 108 then cf_aload 0 109 else cf_stuck))
      else
      (bif Nat.ble pc 109 then
       (bif Nat.beq pc 109 then cf_get 5 17 112 else cf_stuck)
       else
       (bif Nat.ble pc 112 then
        (bif Nat.beq pc 112 then cf_aload 0 113 else cf_stuck)
        else
        (bif Nat.beq pc 113 then cf_iload 2 114 else cf_stuck))))
     else
     (bif Nat.ble pc 118 then
      (bif Nat.ble pc 114 then
       (bif Nat.beq pc 114 then cf_call 2 F_P_a 117 else cf_stuck)
       else
       (bif Nat.ble pc 117 then
        (bif Nat.beq pc 117 then cf_iald 118 else cf_stuck)
        else
        (bif Nat.beq pc 118 then cf_aload 0 119 else cf_stuck)))
      else
      (bif Nat.ble pc 119 then
       (bif Nat.beq pc 119 then cf_get 5 17 122 else cf_stuck)
       else
       (bif Nat.ble pc 122 then
        (bif Nat.beq pc 122 then cf_aload 0 123 else cf_stuck)
        else
        (bif Nat.beq pc 123 then cf_iload 2 124 else cf_stuck)))))
    else
    (bif Nat.ble pc 130 then
     (bif Nat.ble pc 127 then
      (bif Nat.ble pc 124 then
       (bif Nat.beq pc 124 then cf_call 2 F_P_b 127 else cf_stuck)
       else
       (bif Nat.beq pc 127 then cf_iald 128 else cf_stuck))
      else
      (bif Nat.ble pc 128 then
       (bif Nat.beq pc 128 then cf_bin (fun x y => x + y) 129 else cf_stuck)
       else
       (bif Nat.ble pc 129 then
        (bif Nat.beq pc 129 then cf_iast 130 else cf_stuck)
        else
        (bif Nat.beq pc 130 then cf_iload 4 132 else cf_stuck))))
     else
     (bif Nat.ble pc 136 then
      (bif Nat.ble pc 132 then
       (bif Nat.beq pc 132 then cf_const 3 133 else cf_stuck)
       else
       (bif Nat.ble pc 133 then
        (bif Nat.beq pc 133 then cf_icne 171 136 else cf_stuck)
        else
        (bif Nat.beq pc 136 then cf_aload 0 137 else cf_stuck)))
      else
      (bif Nat.ble pc 137 then
       (bif Nat.beq pc 137 then cf_get 5 17 140 else cf_stuck)
       else
       (bif Nat.ble pc 140 then
        (bif Nat.beq pc 140 then cf_aload 0 141 else cf_stuck)
        else
        (bif Nat.beq pc 141 then cf_iload 2 142 else cf_stuck))))))))
 else
 (bif Nat.ble pc 216 then
  (bif Nat.ble pc 175 then
   (bif Nat.ble pc 159 then
    (bif Nat.ble pc 150 then
     (bif Nat.ble pc 145 then
      (bif Nat.ble pc 142 then
       (bif Nat.beq pc 142 then cf_call 2 F_P_a 145 else cf_stuck)
       else
       (bif Nat.beq pc 145 then cf_iald 146 else cf_stuck))
      else
      (bif Nat.ble pc 146 then
       (bif Nat.beq pc 146 then cf_ifle 171 149 else cf_stuck)
       else
       (bif Nat.ble pc 149 then
        (bif Nat.beq pc 149 then cf_aload 0 150 else cf_stuck)
        else
        (bif Nat.beq pc 150 then cf_get 5 17 153 else cf_stuck))))
     else
     (bif Nat.ble pc 154 then
      (bif Nat.ble pc 153 then
       (bif Nat.beq pc 153 then cf_aload 0 154 else cf_stuck)
       else
       (bif Nat.beq pc 154 then cf_iload 2 155 else cf_stuck))
      else
      (bif Nat.ble pc 155 then
       (bif Nat.beq pc 155 then cf_call 2 F_P_a 158 else cf_stuck)
       else
       (bif Nat.ble pc 158 then
        (bif Nat.beq pc 158 then cf_aload 0 159 else cf_stuck)
        else
        (bif Nat.beq pc 159 then cf_get 5 17 162 else cf_stuck)))))
    else
    (bif Nat.ble pc 168 then
     (bif Nat.ble pc 163 then
      (bif Nat.ble pc 162 then
       (bif Nat.beq pc 162 then cf_aload 0 163 else cf_stuck)
       else
       (bif Nat.beq pc 163 then cf_iload 2 164 else cf_stuck))
      else
      (bif Nat.ble pc 164 then
       (bif Nat.beq pc 164 then cf_call 2 F_P_a 167 else cf_stuck)
       else
       (bif Nat.ble pc 167 then
        (bif Nat.beq pc 167 then cf_iald 168 else cf_stuck)
        else
        (bif Nat.beq pc 168 then cf_const 1 169 else cf_stuck))))
     else
     (bif Nat.ble pc 171 then
      (bif Nat.ble pc 169 then
       (bif Nat.beq pc 169 then cf_bin (fun x y => x - y) 170 else cf_stuck)
       else
       (bif Nat.ble pc 170 then
        (bif Nat.beq pc 170 then cf_iast 171 else cf_stuck)
        else
        (bif Nat.beq pc 171 then cf_iload 4 173 else cf_stuck)))
      else
      (bif Nat.ble pc 173 then
       (bif Nat.beq pc 173 then cf_const 4 174 else cf_stuck)
       else
       (bif Nat.ble pc 174 then
        (bif Nat.beq pc 174 then cf_const 5 175 else cf_stuck)
        else
        (bif Nat.beq pc 175 then cf_call 3 F_P_in 178 else cf_stuck))))))
   else
   (bif Nat.ble pc 198 then
    (bif Nat.ble pc 186 then
     (bif Nat.ble pc 181 then
      (bif Nat.ble pc 178 then
       (bif Nat.beq pc 178 then cf_ifeq 204 181 else cf_stuck)
       else
       (bif Nat.beq pc 181 then cf_aload 0 182 else cf_stuck))
      else
      (bif Nat.ble pc 182 then
       (bif Nat.beq pc 182 then cf_get 5 17 185 else cf_stuck)
       else
       (bif Nat.ble pc 185 then
        (bif Nat.beq pc 185 then cf_aload 0 186 else cf_stuck)
        else
        (bif Nat.beq pc 186 then cf_iload 2 187 else cf_stuck))))
     else
     (bif Nat.ble pc 191 then
      (bif Nat.ble pc 187 then
       (bif Nat.beq pc 187 then cf_call 2 F_P_a 190 else cf_stuck)
       else
       (bif Nat.ble pc 190 then
        (bif Nat.beq pc 190 then cf_iald 191 else cf_stuck)
        else
        (bif Nat.beq pc 191 then cf_ifne 204 194 else cf_stuck)))
      else
      (bif Nat.ble pc 194 then
       (bif Nat.beq pc 194 then cf_aload 0 195 else cf_stuck)
       else
       (bif Nat.ble pc 195 then
        (bif Nat.beq pc 195 then cf_get 5 15 198 else cf_stuck)
        else
        (bif Nat.beq pc 198 then cf_iload 2 199 else cf_stuck)))))
    else
    (bif Nat.ble pc 204 then
     (bif Nat.ble pc 200 then
      (bif Nat.ble pc 199 then
       (bif Nat.beq pc 199 then cf_iald 200 else cf_stuck)
       else
       (bif Nat.beq pc 200 then cf_const 1 201 else cf_stuck))
      else
      (bif Nat.ble pc 201 then
       (bif Nat.beq pc 201 then cf_bin (fun x y => x + y) 202 else cf_stuck)
       else
       (bif Nat.ble pc 202 then
        (bif Nat.beq pc 202 then cf_istore 5 204 else cf_stuck)
        else
        (bif Nat.beq pc 204 then cf_iload 4 206 else cf_stuck))))
     else
     (bif Nat.ble pc 211 then
      (bif Nat.ble pc 206 then
       (bif Nat.beq pc 206 then cf_const 6 208 else cf_stuck)
       else
       (bif Nat.ble pc 208 then
        (bif Nat.beq pc 208 then cf_icne 233 211 else cf_stuck)
        else
        (bif Nat.beq pc 211 then cf_aload 0 212 else cf_stuck)))
      else
      (bif Nat.ble pc 212 then
       (bif Nat.beq pc 212 then cf_aload 0 213 else cf_stuck)
       else
       (bif Nat.ble pc 213 then
        (bif Nat.beq pc 213 then cf_get 5 15 216 else cf_stuck)
        else
        (bif Nat.beq pc 216 then cf_iload 2 217 else cf_stuck)))))))
  else
  (bif Nat.ble pc 255 then
   (bif Nat.ble pc 235 then
    (bif Nat.ble pc 225 then
     (bif Nat.ble pc 218 then
      (bif Nat.ble pc 217 then
       (bif Nat.beq pc 217 then cf_iald 218 else cf_stuck)
       else
       (bif Nat.beq pc 218 then cf_call 2 F_P_operation 221 else cf_stuck))
      else
      (bif Nat.ble pc 221 then
       (bif Nat.beq pc 221 then cf_const 4 222 else cf_stuck)
       else
       (bif Nat.ble pc 222 then
        (bif Nat.beq pc 222 then cf_icne 233 225 else cf_stuck)
        else
        (bif Nat.beq pc 225 then cf_aload 0 226 else cf_stuck))))
     else
     (bif Nat.ble pc 230 then
      (bif Nat.ble pc 226 then
       (bif Nat.beq pc 226 then cf_get 5 15 229 else cf_stuck)
       else
       (bif Nat.ble pc 229 then
        (bif Nat.beq pc 229 then cf_iload 2 230 else cf_stuck)
        else
        (bif Nat.beq pc 230 then cf_iald 231 else cf_stuck)))
      else
      (bif Nat.ble pc 231 then
       (bif Nat.beq pc 231 then cf_istore 5 233 else cf_stuck)
       else
       (bif Nat.ble pc 233 then
        (bif Nat.beq pc 233 then cf_iload 4 235 else cf_stuck)
        else
        (bif Nat.beq pc 235 then cf_const 7 237 else cf_stuck)))))
    else
    (bif Nat.ble pc 245 then
     (bif Nat.ble pc 240 then
      (bif Nat.ble pc 237 then
       (bif Nat.beq pc 237 then cf_icne 260 240 else cf_stuck)
       else
       (bif Nat.beq pc 240 then cf_aload 0 241 else cf_stuck))
      else
      (bif Nat.ble pc 241 then
       (bif Nat.beq pc 241 then cf_get 5 17 244 else cf_stuck)
       else
       (bif Nat.ble pc 244 then
        (bif Nat.beq pc 244 then cf_aload 0 245 else cf_stuck)
        else
        (bif Nat.beq pc 245 then cf_iload 2 246 else cf_stuck))))
     else
     (bif Nat.ble pc 250 then
      (bif Nat.ble pc 246 then
       (bif Nat.beq pc 246 then cf_call 2 F_P_a 249 else cf_stuck)
       else
       (bif Nat.ble pc 249 then
        (bif Nat.beq pc 249 then cf_iald 250 else cf_stuck)
        else
        (bif Nat.beq pc 250 then cf_aload 0 251 else cf_stuck)))
      else
      (bif Nat.ble pc 251 then
       (bif Nat.beq pc 251 then cf_iload 2 252 else cf_stuck)
       else
       (bif Nat.ble pc 252 then
        (bif Nat.beq pc 252 then cf_call 2 F_P_b 255 else cf_stuck)
        else
        (bif Nat.beq pc 255 then cf_iceq 260 258 else cf_stuck))))))
   else
   (bif Nat.ble pc 276 then
    (bif Nat.ble pc 264 then
     (bif Nat.ble pc 259 then
      (bif Nat.ble pc 258 then
       (bif Nat.beq pc 258 then cf_const 2 259 else cf_stuck)
       else
       (bif Nat.beq pc 259 then cf_iret else cf_stuck))
      else
      (bif Nat.ble pc 260 then
       (bif Nat.beq pc 260 then cf_iload 4 262 else cf_stuck)
       else
       (bif Nat.ble pc 262 then
        (bif Nat.beq pc 262 then cf_const 8 264 else cf_stuck)
        else
        (bif Nat.beq pc 264 then cf_icne 287 267 else cf_stuck))))
     else
     (bif Nat.ble pc 271 then
      (bif Nat.ble pc 267 then
       (bif Nat.beq pc 267 then cf_aload 0 268 else cf_stuck)
       else
       (bif Nat.ble pc 268 then
        (bif Nat.beq pc 268 then cf_get 5 17 271 else cf_stuck)
        else
        (bif Nat.beq pc 271 then cf_aload 0 272 else cf_stuck)))
      else
      (bif Nat.ble pc 272 then
       (bif Nat.beq pc 272 then cf_iload 2 273 else cf_stuck)
       else
       (bif Nat.ble pc 273 then
        (bif Nat.beq pc 273 then cf_call 2 F_P_a 276 else cf_stuck)
        else
        (bif Nat.beq pc 276 then cf_aload 0 277 else cf_stuck)))))
    else
    (bif Nat.ble pc 285 then
     (bif Nat.ble pc 280 then
      (bif Nat.ble pc 277 then
       (bif Nat.beq pc 277 then cf_get 5 17 280 else cf_stuck)
       else
       (bif Nat.beq pc 280 then cf_aload 0 281 else cf_stuck))
      else
      (bif Nat.ble pc 281 then
       (bif Nat.beq pc 281 then cf_iload 2 282 else cf_stuck)
       else
       (bif Nat.ble pc 282 then
        (bif Nat.beq pc 282 then cf_call 2 F_P_b 285 else cf_stuck)
        else
        (bif Nat.beq pc 285 then cf_iald 286 else cf_stuck))))
     else
     (bif Nat.ble pc 289 then
      (bif Nat.ble pc 286 then
       (bif Nat.beq pc 286 then cf_iast 287 else cf_stuck)
       else
       (bif Nat.ble pc 287 then
        (bif Nat.beq pc 287 then cf_iload 5 289 else cf_stuck)
        else
        (bif Nat.beq pc 289 then cf_istore 2 290 else cf_stuck)))
      else
      (bif Nat.ble pc 290 then
       (bif Nat.beq pc 290 then cf_goto 42 else cf_stuck)
       else
       (bif Nat.ble pc 293 then
        (bif Nat.beq pc 293 then cf_const 1 294 else cf_stuck)
        else
        (bif Nat.beq pc 294 then cf_iret else cf_stuck))))))))
noncomputable def F_P_run : List cf_AV → cf_Wd → Option cf_Rs := cf_F T_P_run 6 (some .int) (cf_shV 15 1)
theorem r_P_run_0 {l1 l2 l3 l4 l5 : Option cf_AV} {k : Nat} {st : List cf_AV} {w : cf_Wd} {Q : cf_Rs → Prop} : cf_wp T_P_run (0, [some (.inr k), l1, l2, l3, l4, l5], st, w) Q ↔ cf_wp T_P_run (1, [some (.inr k), l1, l2, l3, l4, l5], .inr k :: st, w) Q := cf_w1 rfl
theorem r_P_run_1 {l0 l1 l2 l3 l4 l5 : Option cf_AV} {w : cf_Wd} {Q : cf_Rs → Prop} : cf_wp T_P_run (1, [l0, l1, l2, l3, l4, l5], [.inr 15], w) Q ↔ ∃ x w1, F_P_isBuildable [.inr 15] w = some (some (.inl x), w1) ∧ cf_wp T_P_run (4, [l0, l1, l2, l3, l4, l5], [.inl x], w1) Q := cf_wci (n := 1) (F := F_P_isBuildable) (nx := 4) rfl rfl cf_F_b
theorem c_P_run_1 {l0 l1 l2 l3 l4 l5 : Option cf_AV} {x1 : Int32} {w1 : cf_Wd} {w : cf_Wd} {Q : cf_Rs → Prop} (hs : F_P_isBuildable [.inr 15] w = some (some (.inl x1), w1)) : cf_wp T_P_run (1, [l0, l1, l2, l3, l4, l5], [.inr 15], w) Q ↔ cf_wp T_P_run (4, [l0, l1, l2, l3, l4, l5], [.inl x1], w1) Q := r_P_run_1.trans (cf_xi hs)
theorem r_P_run_4 {l0 l1 l2 l3 l4 l5 : Option cf_AV} {x : Int32} {st : List cf_AV} {w : cf_Wd} {Q : cf_Rs → Prop} : cf_wp T_P_run (4, [l0, l1, l2, l3, l4, l5], .inl x :: st, w) Q ↔ (if ¬ x = 0 then cf_wp T_P_run (9, [l0, l1, l2, l3, l4, l5], st, w) Q else cf_wp T_P_run (7, [l0, l1, l2, l3, l4, l5], st, w) Q) := cf_wi rfl
theorem r_P_run_7 {l0 l1 l2 l3 l4 l5 : Option cf_AV} {st : List cf_AV} {w : cf_Wd} {Q : cf_Rs → Prop} : cf_wp T_P_run (7, [l0, l1, l2, l3, l4, l5], st, w) Q ↔ cf_wp T_P_run (8, [l0, l1, l2, l3, l4, l5], .inl 3 :: st, w) Q := cf_w1 rfl
theorem r_P_run_8 {l0 l1 l2 l3 l4 l5 : Option cf_AV} {x : Int32} {w : cf_Wd} {P : Int32 → cf_Wd → Prop} : cf_wp T_P_run (8, [l0, l1, l2, l3, l4, l5], [.inl x], w) (cf_qi P) ↔ P x w := Iff.trans (cf_wr (q := (some (.inl x), w)) rfl) Iff.rfl
theorem r_P_run_9 {l0 l1 l2 l3 l4 l5 : Option cf_AV} {st : List cf_AV} {w : cf_Wd} {Q : cf_Rs → Prop} : cf_wp T_P_run (9, [l0, l1, l2, l3, l4, l5], st, w) Q ↔ cf_wp T_P_run (10, [l0, l1, l2, l3, l4, l5], .inl 0 :: st, w) Q := cf_w1 rfl
theorem r_P_run_10 {l0 l1 l2 l3 l4 l5 : Option cf_AV} {x : Int32} {st : List cf_AV} {w : cf_Wd} {Q : cf_Rs → Prop} : cf_wp T_P_run (10, [l0, l1, l2, l3, l4, l5], .inl x :: st, w) Q ↔ cf_wp T_P_run (11, [l0, l1, some (.inl x), l3, l4, l5], st, w) Q := cf_w1 rfl
theorem r_P_run_11 {l0 l1 l3 l4 l5 : Option cf_AV} {x : Int32} {st : List cf_AV} {w : cf_Wd} {Q : cf_Rs → Prop} : cf_wp T_P_run (11, [l0, l1, some (.inl x), l3, l4, l5], st, w) Q ↔ cf_wp T_P_run (12, [l0, l1, some (.inl x), l3, l4, l5], .inl x :: st, w) Q := cf_w1 rfl
theorem r_P_run_12 {l0 l1 l2 l3 l4 l5 : Option cf_AV} {st : List cf_AV} {w : cf_Wd} {Q : cf_Rs → Prop} : cf_wp T_P_run (12, [l0, l1, l2, l3, l4, l5], st, w) Q ↔ cf_wp T_P_run (14, [l0, l1, l2, l3, l4, l5], .inl 10 :: st, w) Q := cf_w1 rfl
theorem r_P_run_14 {l0 l1 l2 l3 l4 l5 : Option cf_AV} {x y : Int32} {st : List cf_AV} {w : cf_Wd} {Q : cf_Rs → Prop} : cf_wp T_P_run (14, [l0, l1, l2, l3, l4, l5], .inl y :: .inl x :: st, w) Q ↔ (if y ≤ x then cf_wp T_P_run (38, [l0, l1, l2, l3, l4, l5], st, w) Q else cf_wp T_P_run (17, [l0, l1, l2, l3, l4, l5], st, w) Q) := cf_wi rfl
theorem r_P_run_17 {l1 l2 l3 l4 l5 : Option cf_AV} {k : Nat} {st : List cf_AV} {w : cf_Wd} {Q : cf_Rs → Prop} : cf_wp T_P_run (17, [some (.inr k), l1, l2, l3, l4, l5], st, w) Q ↔ cf_wp T_P_run (18, [some (.inr k), l1, l2, l3, l4, l5], .inr k :: st, w) Q := cf_w1 rfl
theorem r_P_run_18 {l0 l1 l2 l3 l4 l5 : Option cf_AV} {st : List cf_AV} {w : cf_Wd} {Q : cf_Rs → Prop} : cf_wp T_P_run (18, [l0, l1, l2, l3, l4, l5], .inr 15 :: st, w) Q ↔ cf_wp T_P_run (21, [l0, l1, l2, l3, l4, l5], .inr 25 :: st, w) Q := cf_w1 rfl
theorem r_P_run_21 {l0 l1 l3 l4 l5 : Option cf_AV} {x : Int32} {st : List cf_AV} {w : cf_Wd} {Q : cf_Rs → Prop} : cf_wp T_P_run (21, [l0, l1, some (.inl x), l3, l4, l5], st, w) Q ↔ cf_wp T_P_run (22, [l0, l1, some (.inl x), l3, l4, l5], .inl x :: st, w) Q := cf_w1 rfl
theorem r_P_run_22 {l0 l1 l3 l4 l5 : Option cf_AV} {x : Int32} {st : List cf_AV} {w : cf_Wd} {Q : cf_Rs → Prop} : cf_wp T_P_run (22, [l0, l1, some (.inl x), l3, l4, l5], st, w) Q ↔ cf_wp T_P_run (23, [l0, l1, some (.inl x), l3, l4, l5], .inl x :: st, w) Q := cf_w1 rfl
theorem r_P_run_23 {l0 l1 l2 l3 l4 l5 : Option cf_AV} {x : Int32} {st : List cf_AV} {w : cf_Wd} {Q : cf_Rs → Prop} : cf_wp T_P_run (23, [l0, l1, l2, l3, l4, l5], .inl x :: st, w) Q ↔ (if ¬ x = 0 then cf_wp T_P_run (30, [l0, l1, l2, l3, l4, l5], st, w) Q else cf_wp T_P_run (26, [l0, l1, l2, l3, l4, l5], st, w) Q) := cf_wi rfl
theorem r_P_run_26 {l0 l2 l3 l4 l5 : Option cf_AV} {x : Int32} {st : List cf_AV} {w : cf_Wd} {Q : cf_Rs → Prop} : cf_wp T_P_run (26, [l0, some (.inl x), l2, l3, l4, l5], st, w) Q ↔ cf_wp T_P_run (27, [l0, some (.inl x), l2, l3, l4, l5], .inl x :: st, w) Q := cf_w1 rfl
theorem r_P_run_27 {l0 l1 l2 l3 l4 l5 : Option cf_AV} {st : List cf_AV} {w : cf_Wd} {Q : cf_Rs → Prop} : cf_wp T_P_run (27, [l0, l1, l2, l3, l4, l5], st, w) Q ↔ cf_wp T_P_run (31, [l0, l1, l2, l3, l4, l5], st, w) Q := cf_w1 rfl
theorem r_P_run_30 {l0 l1 l2 l3 l4 l5 : Option cf_AV} {st : List cf_AV} {w : cf_Wd} {Q : cf_Rs → Prop} : cf_wp T_P_run (30, [l0, l1, l2, l3, l4, l5], st, w) Q ↔ cf_wp T_P_run (31, [l0, l1, l2, l3, l4, l5], .inl 0 :: st, w) Q := cf_w1 rfl
theorem r_P_run_31 {l0 l1 l2 l3 l4 l5 : Option cf_AV} {x i : Int32} {st : List cf_AV} {w : cf_Wd} {Q : cf_Rs → Prop} : cf_wp T_P_run (31, [l0, l1, l2, l3, l4, l5], .inl x :: .inl i :: .inr 25 :: st, w) Q ↔ (cf_in i 10 = true ∧ cf_wp T_P_run (32, [l0, l1, l2, l3, l4, l5], st, (cf_wa w 25 (upd (w 25) i.toNatClampNeg x))) Q) := cf_wg rfl
theorem r_P_run_32 {l0 l1 l3 l4 l5 : Option cf_AV} {x : Int32} {st : List cf_AV} {w : cf_Wd} {Q : cf_Rs → Prop} : cf_wp T_P_run (32, [l0, l1, some (.inl x), l3, l4, l5], st, w) Q ↔ cf_wp T_P_run (35, [l0, l1, some (.inl (x + 1)), l3, l4, l5], st, w) Q := cf_w1 rfl
theorem r_P_run_35 {l0 l1 l2 l3 l4 l5 : Option cf_AV} {st : List cf_AV} {w : cf_Wd} {Q : cf_Rs → Prop} : cf_wp T_P_run (35, [l0, l1, l2, l3, l4, l5], st, w) Q ↔ cf_wp T_P_run (11, [l0, l1, l2, l3, l4, l5], st, w) Q := cf_w1 rfl
theorem r_P_run_38 {l0 l1 l2 l3 l4 l5 : Option cf_AV} {st : List cf_AV} {w : cf_Wd} {Q : cf_Rs → Prop} : cf_wp T_P_run (38, [l0, l1, l2, l3, l4, l5], st, w) Q ↔ cf_wp T_P_run (39, [l0, l1, l2, l3, l4, l5], .inl 0 :: st, w) Q := cf_w1 rfl
theorem r_P_run_39 {l0 l1 l2 l3 l4 l5 : Option cf_AV} {x : Int32} {st : List cf_AV} {w : cf_Wd} {Q : cf_Rs → Prop} : cf_wp T_P_run (39, [l0, l1, l2, l3, l4, l5], .inl x :: st, w) Q ↔ cf_wp T_P_run (40, [l0, l1, some (.inl x), l3, l4, l5], st, w) Q := cf_w1 rfl
theorem r_P_run_40 {l0 l1 l2 l3 l4 l5 : Option cf_AV} {st : List cf_AV} {w : cf_Wd} {Q : cf_Rs → Prop} : cf_wp T_P_run (40, [l0, l1, l2, l3, l4, l5], st, w) Q ↔ cf_wp T_P_run (41, [l0, l1, l2, l3, l4, l5], .inl 0 :: st, w) Q := cf_w1 rfl
theorem r_P_run_41 {l0 l1 l2 l3 l4 l5 : Option cf_AV} {x : Int32} {st : List cf_AV} {w : cf_Wd} {Q : cf_Rs → Prop} : cf_wp T_P_run (41, [l0, l1, l2, l3, l4, l5], .inl x :: st, w) Q ↔ cf_wp T_P_run (42, [l0, l1, l2, some (.inl x), l4, l5], st, w) Q := cf_w1 rfl
theorem r_P_run_42 {l0 l1 l3 l4 l5 : Option cf_AV} {x : Int32} {st : List cf_AV} {w : cf_Wd} {Q : cf_Rs → Prop} : cf_wp T_P_run (42, [l0, l1, some (.inl x), l3, l4, l5], st, w) Q ↔ cf_wp T_P_run (43, [l0, l1, some (.inl x), l3, l4, l5], .inl x :: st, w) Q := cf_w1 rfl
theorem r_P_run_43 {l0 l1 l2 l3 l4 l5 : Option cf_AV} {st : List cf_AV} {w : cf_Wd} {Q : cf_Rs → Prop} : cf_wp T_P_run (43, [l0, l1, l2, l3, l4, l5], st, w) Q ↔ cf_wp T_P_run (45, [l0, l1, l2, l3, l4, l5], .inl 8 :: st, w) Q := cf_w1 rfl
theorem r_P_run_45 {l0 l1 l2 l3 l4 l5 : Option cf_AV} {x y : Int32} {st : List cf_AV} {w : cf_Wd} {Q : cf_Rs → Prop} : cf_wp T_P_run (45, [l0, l1, l2, l3, l4, l5], .inl y :: .inl x :: st, w) Q ↔ (if y ≤ x then cf_wp T_P_run (293, [l0, l1, l2, l3, l4, l5], st, w) Q else cf_wp T_P_run (48, [l0, l1, l2, l3, l4, l5], st, w) Q) := cf_wi rfl
theorem r_P_run_48 {l0 l1 l2 l4 l5 : Option cf_AV} {x : Int32} {st : List cf_AV} {w : cf_Wd} {Q : cf_Rs → Prop} : cf_wp T_P_run (48, [l0, l1, l2, some (.inl x), l4, l5], st, w) Q ↔ cf_wp T_P_run (49, [l0, l1, l2, some (.inl x), l4, l5], .inl x :: st, w) Q := cf_w1 rfl
theorem r_P_run_49 {l0 l1 l2 l3 l4 l5 : Option cf_AV} {st : List cf_AV} {w : cf_Wd} {Q : cf_Rs → Prop} : cf_wp T_P_run (49, [l0, l1, l2, l3, l4, l5], st, w) Q ↔ cf_wp T_P_run (50, [l0, l1, l2, l3, l4, l5], .inl 1 :: st, w) Q := cf_w1 rfl
theorem r_P_run_50 {l0 l1 l2 l3 l4 l5 : Option cf_AV} {x y : Int32} {st : List cf_AV} {w : cf_Wd} {Q : cf_Rs → Prop} : cf_wp T_P_run (50, [l0, l1, l2, l3, l4, l5], .inl y :: .inl x :: st, w) Q ↔ cf_wp T_P_run (51, [l0, l1, l2, l3, l4, l5], .inl (x + y) :: st, w) Q := cf_w1 rfl
theorem r_P_run_51 {l0 l1 l2 l3 l4 l5 : Option cf_AV} {x : Int32} {st : List cf_AV} {w : cf_Wd} {Q : cf_Rs → Prop} : cf_wp T_P_run (51, [l0, l1, l2, l3, l4, l5], .inl x :: st, w) Q ↔ cf_wp T_P_run (52, [l0, l1, l2, some (.inl x), l4, l5], st, w) Q := cf_w1 rfl
theorem r_P_run_52 {l0 l1 l2 l4 l5 : Option cf_AV} {x : Int32} {st : List cf_AV} {w : cf_Wd} {Q : cf_Rs → Prop} : cf_wp T_P_run (52, [l0, l1, l2, some (.inl x), l4, l5], st, w) Q ↔ cf_wp T_P_run (53, [l0, l1, l2, some (.inl x), l4, l5], .inl x :: st, w) Q := cf_w1 rfl
theorem r_P_run_53 {l0 l1 l2 l3 l4 l5 : Option cf_AV} {st : List cf_AV} {w : cf_Wd} {Q : cf_Rs → Prop} : cf_wp T_P_run (53, [l0, l1, l2, l3, l4, l5], st, w) Q ↔ cf_wp T_P_run (55, [l0, l1, l2, l3, l4, l5], .inl 80 :: st, w) Q := cf_w1 rfl
theorem r_P_run_55 {l0 l1 l2 l3 l4 l5 : Option cf_AV} {x y : Int32} {st : List cf_AV} {w : cf_Wd} {Q : cf_Rs → Prop} : cf_wp T_P_run (55, [l0, l1, l2, l3, l4, l5], .inl y :: .inl x :: st, w) Q ↔ (if x ≤ y then cf_wp T_P_run (60, [l0, l1, l2, l3, l4, l5], st, w) Q else cf_wp T_P_run (58, [l0, l1, l2, l3, l4, l5], st, w) Q) := cf_wi rfl
theorem r_P_run_58 {l0 l1 l2 l3 l4 l5 : Option cf_AV} {st : List cf_AV} {w : cf_Wd} {Q : cf_Rs → Prop} : cf_wp T_P_run (58, [l0, l1, l2, l3, l4, l5], st, w) Q ↔ cf_wp T_P_run (59, [l0, l1, l2, l3, l4, l5], .inl 2 :: st, w) Q := cf_w1 rfl
theorem r_P_run_59 {l0 l1 l2 l3 l4 l5 : Option cf_AV} {x : Int32} {w : cf_Wd} {P : Int32 → cf_Wd → Prop} : cf_wp T_P_run (59, [l0, l1, l2, l3, l4, l5], [.inl x], w) (cf_qi P) ↔ P x w := Iff.trans (cf_wr (q := (some (.inl x), w)) rfl) Iff.rfl
theorem r_P_run_60 {l1 l2 l3 l4 l5 : Option cf_AV} {k : Nat} {st : List cf_AV} {w : cf_Wd} {Q : cf_Rs → Prop} : cf_wp T_P_run (60, [some (.inr k), l1, l2, l3, l4, l5], st, w) Q ↔ cf_wp T_P_run (61, [some (.inr k), l1, l2, l3, l4, l5], .inr k :: st, w) Q := cf_w1 rfl
theorem r_P_run_61 {l0 l1 l3 l4 l5 : Option cf_AV} {x : Int32} {st : List cf_AV} {w : cf_Wd} {Q : cf_Rs → Prop} : cf_wp T_P_run (61, [l0, l1, some (.inl x), l3, l4, l5], st, w) Q ↔ cf_wp T_P_run (62, [l0, l1, some (.inl x), l3, l4, l5], .inl x :: st, w) Q := cf_w1 rfl
theorem r_P_run_62 {l0 l1 l2 l3 l4 l5 : Option cf_AV} {a1 : Int32} {w : cf_Wd} {Q : cf_Rs → Prop} : cf_wp T_P_run (62, [l0, l1, l2, l3, l4, l5], [.inl a1, .inr 15], w) Q ↔ ∃ x w1, F_P_operation [.inr 15, .inl a1] w = some (some (.inl x), w1) ∧ cf_wp T_P_run (65, [l0, l1, l2, l3, l4, l5], [.inl x], w1) Q := cf_wci (n := 2) (F := F_P_operation) (nx := 65) rfl rfl cf_F_i
theorem c_P_run_62 {l0 l1 l2 l3 l4 l5 : Option cf_AV} {a1 : Int32} {x1 : Int32} {w1 : cf_Wd} {w : cf_Wd} {Q : cf_Rs → Prop} (hs : F_P_operation [.inr 15, .inl a1] w = some (some (.inl x1), w1)) : cf_wp T_P_run (62, [l0, l1, l2, l3, l4, l5], [.inl a1, .inr 15], w) Q ↔ cf_wp T_P_run (65, [l0, l1, l2, l3, l4, l5], [.inl x1], w1) Q := r_P_run_62.trans (cf_xi hs)
theorem r_P_run_65 {l0 l1 l2 l3 l4 l5 : Option cf_AV} {x : Int32} {st : List cf_AV} {w : cf_Wd} {Q : cf_Rs → Prop} : cf_wp T_P_run (65, [l0, l1, l2, l3, l4, l5], .inl x :: st, w) Q ↔ cf_wp T_P_run (67, [l0, l1, l2, l3, some (.inl x), l5], st, w) Q := cf_w1 rfl
theorem r_P_run_67 {l0 l1 l3 l4 l5 : Option cf_AV} {x : Int32} {st : List cf_AV} {w : cf_Wd} {Q : cf_Rs → Prop} : cf_wp T_P_run (67, [l0, l1, some (.inl x), l3, l4, l5], st, w) Q ↔ cf_wp T_P_run (68, [l0, l1, some (.inl x), l3, l4, l5], .inl x :: st, w) Q := cf_w1 rfl
theorem r_P_run_68 {l0 l1 l2 l3 l4 l5 : Option cf_AV} {st : List cf_AV} {w : cf_Wd} {Q : cf_Rs → Prop} : cf_wp T_P_run (68, [l0, l1, l2, l3, l4, l5], st, w) Q ↔ cf_wp T_P_run (69, [l0, l1, l2, l3, l4, l5], .inl 1 :: st, w) Q := cf_w1 rfl
theorem r_P_run_69 {l0 l1 l2 l3 l4 l5 : Option cf_AV} {x y : Int32} {st : List cf_AV} {w : cf_Wd} {Q : cf_Rs → Prop} : cf_wp T_P_run (69, [l0, l1, l2, l3, l4, l5], .inl y :: .inl x :: st, w) Q ↔ cf_wp T_P_run (70, [l0, l1, l2, l3, l4, l5], .inl (x + y) :: st, w) Q := cf_w1 rfl
theorem r_P_run_70 {l0 l1 l2 l3 l4 l5 : Option cf_AV} {x : Int32} {st : List cf_AV} {w : cf_Wd} {Q : cf_Rs → Prop} : cf_wp T_P_run (70, [l0, l1, l2, l3, l4, l5], .inl x :: st, w) Q ↔ cf_wp T_P_run (72, [l0, l1, l2, l3, l4, some (.inl x)], st, w) Q := cf_w1 rfl
theorem r_P_run_72 {l0 l1 l2 l3 l5 : Option cf_AV} {x : Int32} {st : List cf_AV} {w : cf_Wd} {Q : cf_Rs → Prop} : cf_wp T_P_run (72, [l0, l1, l2, l3, some (.inl x), l5], st, w) Q ↔ cf_wp T_P_run (74, [l0, l1, l2, l3, some (.inl x), l5], .inl x :: st, w) Q := cf_w1 rfl
theorem r_P_run_74 {l0 l1 l2 l3 l4 l5 : Option cf_AV} {st : List cf_AV} {w : cf_Wd} {Q : cf_Rs → Prop} : cf_wp T_P_run (74, [l0, l1, l2, l3, l4, l5], st, w) Q ↔ cf_wp T_P_run (75, [l0, l1, l2, l3, l4, l5], .inl 1 :: st, w) Q := cf_w1 rfl
theorem r_P_run_75 {l0 l1 l2 l3 l4 l5 : Option cf_AV} {x y : Int32} {st : List cf_AV} {w : cf_Wd} {Q : cf_Rs → Prop} : cf_wp T_P_run (75, [l0, l1, l2, l3, l4, l5], .inl y :: .inl x :: st, w) Q ↔ (if ¬ x = y then cf_wp T_P_run (93, [l0, l1, l2, l3, l4, l5], st, w) Q else cf_wp T_P_run (78, [l0, l1, l2, l3, l4, l5], st, w) Q) := cf_wi rfl
theorem r_P_run_78 {l1 l2 l3 l4 l5 : Option cf_AV} {k : Nat} {st : List cf_AV} {w : cf_Wd} {Q : cf_Rs → Prop} : cf_wp T_P_run (78, [some (.inr k), l1, l2, l3, l4, l5], st, w) Q ↔ cf_wp T_P_run (79, [some (.inr k), l1, l2, l3, l4, l5], .inr k :: st, w) Q := cf_w1 rfl
theorem r_P_run_79 {l0 l1 l2 l3 l4 l5 : Option cf_AV} {st : List cf_AV} {w : cf_Wd} {Q : cf_Rs → Prop} : cf_wp T_P_run (79, [l0, l1, l2, l3, l4, l5], .inr 15 :: st, w) Q ↔ cf_wp T_P_run (82, [l0, l1, l2, l3, l4, l5], .inr 25 :: st, w) Q := cf_w1 rfl
theorem r_P_run_82 {l1 l2 l3 l4 l5 : Option cf_AV} {k : Nat} {st : List cf_AV} {w : cf_Wd} {Q : cf_Rs → Prop} : cf_wp T_P_run (82, [some (.inr k), l1, l2, l3, l4, l5], st, w) Q ↔ cf_wp T_P_run (83, [some (.inr k), l1, l2, l3, l4, l5], .inr k :: st, w) Q := cf_w1 rfl
theorem r_P_run_83 {l0 l1 l3 l4 l5 : Option cf_AV} {x : Int32} {st : List cf_AV} {w : cf_Wd} {Q : cf_Rs → Prop} : cf_wp T_P_run (83, [l0, l1, some (.inl x), l3, l4, l5], st, w) Q ↔ cf_wp T_P_run (84, [l0, l1, some (.inl x), l3, l4, l5], .inl x :: st, w) Q := cf_w1 rfl
theorem r_P_run_84 {l0 l1 l2 l3 l4 l5 : Option cf_AV} {a1 : Int32} {t0 : cf_AV} {w : cf_Wd} {Q : cf_Rs → Prop} : cf_wp T_P_run (84, [l0, l1, l2, l3, l4, l5], [.inl a1, .inr 15, t0], w) Q ↔ ∃ x w1, F_P_a [.inr 15, .inl a1] w = some (some (.inl x), w1) ∧ cf_wp T_P_run (87, [l0, l1, l2, l3, l4, l5], [.inl x, t0], w1) Q := cf_wci (n := 2) (F := F_P_a) (nx := 87) rfl rfl cf_F_i
theorem c_P_run_84 {l0 l1 l2 l3 l4 l5 : Option cf_AV} {a1 : Int32} {t0 : cf_AV} {x1 : Int32} {w1 : cf_Wd} {w : cf_Wd} {Q : cf_Rs → Prop} (hs : F_P_a [.inr 15, .inl a1] w = some (some (.inl x1), w1)) : cf_wp T_P_run (84, [l0, l1, l2, l3, l4, l5], [.inl a1, .inr 15, t0], w) Q ↔ cf_wp T_P_run (87, [l0, l1, l2, l3, l4, l5], [.inl x1, t0], w1) Q := r_P_run_84.trans (cf_xi hs)
theorem r_P_run_87 {l1 l2 l3 l4 l5 : Option cf_AV} {k : Nat} {st : List cf_AV} {w : cf_Wd} {Q : cf_Rs → Prop} : cf_wp T_P_run (87, [some (.inr k), l1, l2, l3, l4, l5], st, w) Q ↔ cf_wp T_P_run (88, [some (.inr k), l1, l2, l3, l4, l5], .inr k :: st, w) Q := cf_w1 rfl
theorem r_P_run_88 {l0 l1 l3 l4 l5 : Option cf_AV} {x : Int32} {st : List cf_AV} {w : cf_Wd} {Q : cf_Rs → Prop} : cf_wp T_P_run (88, [l0, l1, some (.inl x), l3, l4, l5], st, w) Q ↔ cf_wp T_P_run (89, [l0, l1, some (.inl x), l3, l4, l5], .inl x :: st, w) Q := cf_w1 rfl
theorem r_P_run_89 {l0 l1 l2 l3 l4 l5 : Option cf_AV} {a1 : Int32} {t0 t1 : cf_AV} {w : cf_Wd} {Q : cf_Rs → Prop} : cf_wp T_P_run (89, [l0, l1, l2, l3, l4, l5], [.inl a1, .inr 15, t0, t1], w) Q ↔ ∃ x w1, F_P_b [.inr 15, .inl a1] w = some (some (.inl x), w1) ∧ cf_wp T_P_run (92, [l0, l1, l2, l3, l4, l5], [.inl x, t0, t1], w1) Q := cf_wci (n := 2) (F := F_P_b) (nx := 92) rfl rfl cf_F_i
theorem c_P_run_89 {l0 l1 l2 l3 l4 l5 : Option cf_AV} {a1 : Int32} {t0 t1 : cf_AV} {x1 : Int32} {w1 : cf_Wd} {w : cf_Wd} {Q : cf_Rs → Prop} (hs : F_P_b [.inr 15, .inl a1] w = some (some (.inl x1), w1)) : cf_wp T_P_run (89, [l0, l1, l2, l3, l4, l5], [.inl a1, .inr 15, t0, t1], w) Q ↔ cf_wp T_P_run (92, [l0, l1, l2, l3, l4, l5], [.inl x1, t0, t1], w1) Q := r_P_run_89.trans (cf_xi hs)
theorem r_P_run_92 {l0 l1 l2 l3 l4 l5 : Option cf_AV} {x i : Int32} {st : List cf_AV} {w : cf_Wd} {Q : cf_Rs → Prop} : cf_wp T_P_run (92, [l0, l1, l2, l3, l4, l5], .inl x :: .inl i :: .inr 25 :: st, w) Q ↔ (cf_in i 10 = true ∧ cf_wp T_P_run (93, [l0, l1, l2, l3, l4, l5], st, (cf_wa w 25 (upd (w 25) i.toNatClampNeg x))) Q) := cf_wg rfl
theorem r_P_run_93 {l0 l1 l2 l3 l5 : Option cf_AV} {x : Int32} {st : List cf_AV} {w : cf_Wd} {Q : cf_Rs → Prop} : cf_wp T_P_run (93, [l0, l1, l2, l3, some (.inl x), l5], st, w) Q ↔ cf_wp T_P_run (95, [l0, l1, l2, l3, some (.inl x), l5], .inl x :: st, w) Q := cf_w1 rfl
theorem r_P_run_95 {l0 l1 l2 l3 l4 l5 : Option cf_AV} {st : List cf_AV} {w : cf_Wd} {Q : cf_Rs → Prop} : cf_wp T_P_run (95, [l0, l1, l2, l3, l4, l5], st, w) Q ↔ cf_wp T_P_run (96, [l0, l1, l2, l3, l4, l5], .inl 2 :: st, w) Q := cf_w1 rfl
theorem r_P_run_96 {l0 l1 l2 l3 l4 l5 : Option cf_AV} {x y : Int32} {st : List cf_AV} {w : cf_Wd} {Q : cf_Rs → Prop} : cf_wp T_P_run (96, [l0, l1, l2, l3, l4, l5], .inl y :: .inl x :: st, w) Q ↔ (if ¬ x = y then cf_wp T_P_run (130, [l0, l1, l2, l3, l4, l5], st, w) Q else cf_wp T_P_run (99, [l0, l1, l2, l3, l4, l5], st, w) Q) := cf_wi rfl
theorem r_P_run_99 {l1 l2 l3 l4 l5 : Option cf_AV} {k : Nat} {st : List cf_AV} {w : cf_Wd} {Q : cf_Rs → Prop} : cf_wp T_P_run (99, [some (.inr k), l1, l2, l3, l4, l5], st, w) Q ↔ cf_wp T_P_run (100, [some (.inr k), l1, l2, l3, l4, l5], .inr k :: st, w) Q := cf_w1 rfl
theorem r_P_run_100 {l0 l1 l2 l3 l4 l5 : Option cf_AV} {st : List cf_AV} {w : cf_Wd} {Q : cf_Rs → Prop} : cf_wp T_P_run (100, [l0, l1, l2, l3, l4, l5], .inr 15 :: st, w) Q ↔ cf_wp T_P_run (103, [l0, l1, l2, l3, l4, l5], .inr 25 :: st, w) Q := cf_w1 rfl
theorem r_P_run_103 {l1 l2 l3 l4 l5 : Option cf_AV} {k : Nat} {st : List cf_AV} {w : cf_Wd} {Q : cf_Rs → Prop} : cf_wp T_P_run (103, [some (.inr k), l1, l2, l3, l4, l5], st, w) Q ↔ cf_wp T_P_run (104, [some (.inr k), l1, l2, l3, l4, l5], .inr k :: st, w) Q := cf_w1 rfl
theorem r_P_run_104 {l0 l1 l3 l4 l5 : Option cf_AV} {x : Int32} {st : List cf_AV} {w : cf_Wd} {Q : cf_Rs → Prop} : cf_wp T_P_run (104, [l0, l1, some (.inl x), l3, l4, l5], st, w) Q ↔ cf_wp T_P_run (105, [l0, l1, some (.inl x), l3, l4, l5], .inl x :: st, w) Q := cf_w1 rfl
theorem r_P_run_105 {l0 l1 l2 l3 l4 l5 : Option cf_AV} {a1 : Int32} {t0 : cf_AV} {w : cf_Wd} {Q : cf_Rs → Prop} : cf_wp T_P_run (105, [l0, l1, l2, l3, l4, l5], [.inl a1, .inr 15, t0], w) Q ↔ ∃ x w1, F_P_a [.inr 15, .inl a1] w = some (some (.inl x), w1) ∧ cf_wp T_P_run (108, [l0, l1, l2, l3, l4, l5], [.inl x, t0], w1) Q := cf_wci (n := 2) (F := F_P_a) (nx := 108) rfl rfl cf_F_i
theorem c_P_run_105 {l0 l1 l2 l3 l4 l5 : Option cf_AV} {a1 : Int32} {t0 : cf_AV} {x1 : Int32} {w1 : cf_Wd} {w : cf_Wd} {Q : cf_Rs → Prop} (hs : F_P_a [.inr 15, .inl a1] w = some (some (.inl x1), w1)) : cf_wp T_P_run (105, [l0, l1, l2, l3, l4, l5], [.inl a1, .inr 15, t0], w) Q ↔ cf_wp T_P_run (108, [l0, l1, l2, l3, l4, l5], [.inl x1, t0], w1) Q := r_P_run_105.trans (cf_xi hs)
theorem r_P_run_108 {l1 l2 l3 l4 l5 : Option cf_AV} {k : Nat} {st : List cf_AV} {w : cf_Wd} {Q : cf_Rs → Prop} : cf_wp T_P_run (108, [some (.inr k), l1, l2, l3, l4, l5], st, w) Q ↔ cf_wp T_P_run (109, [some (.inr k), l1, l2, l3, l4, l5], .inr k :: st, w) Q := cf_w1 rfl
theorem r_P_run_109 {l0 l1 l2 l3 l4 l5 : Option cf_AV} {st : List cf_AV} {w : cf_Wd} {Q : cf_Rs → Prop} : cf_wp T_P_run (109, [l0, l1, l2, l3, l4, l5], .inr 15 :: st, w) Q ↔ cf_wp T_P_run (112, [l0, l1, l2, l3, l4, l5], .inr 25 :: st, w) Q := cf_w1 rfl
theorem r_P_run_112 {l1 l2 l3 l4 l5 : Option cf_AV} {k : Nat} {st : List cf_AV} {w : cf_Wd} {Q : cf_Rs → Prop} : cf_wp T_P_run (112, [some (.inr k), l1, l2, l3, l4, l5], st, w) Q ↔ cf_wp T_P_run (113, [some (.inr k), l1, l2, l3, l4, l5], .inr k :: st, w) Q := cf_w1 rfl
theorem r_P_run_113 {l0 l1 l3 l4 l5 : Option cf_AV} {x : Int32} {st : List cf_AV} {w : cf_Wd} {Q : cf_Rs → Prop} : cf_wp T_P_run (113, [l0, l1, some (.inl x), l3, l4, l5], st, w) Q ↔ cf_wp T_P_run (114, [l0, l1, some (.inl x), l3, l4, l5], .inl x :: st, w) Q := cf_w1 rfl
theorem r_P_run_114 {l0 l1 l2 l3 l4 l5 : Option cf_AV} {a1 : Int32} {t0 t1 t2 : cf_AV} {w : cf_Wd} {Q : cf_Rs → Prop} : cf_wp T_P_run (114, [l0, l1, l2, l3, l4, l5], [.inl a1, .inr 15, t0, t1, t2], w) Q ↔ ∃ x w1, F_P_a [.inr 15, .inl a1] w = some (some (.inl x), w1) ∧ cf_wp T_P_run (117, [l0, l1, l2, l3, l4, l5], [.inl x, t0, t1, t2], w1) Q := cf_wci (n := 2) (F := F_P_a) (nx := 117) rfl rfl cf_F_i
theorem c_P_run_114 {l0 l1 l2 l3 l4 l5 : Option cf_AV} {a1 : Int32} {t0 t1 t2 : cf_AV} {x1 : Int32} {w1 : cf_Wd} {w : cf_Wd} {Q : cf_Rs → Prop} (hs : F_P_a [.inr 15, .inl a1] w = some (some (.inl x1), w1)) : cf_wp T_P_run (114, [l0, l1, l2, l3, l4, l5], [.inl a1, .inr 15, t0, t1, t2], w) Q ↔ cf_wp T_P_run (117, [l0, l1, l2, l3, l4, l5], [.inl x1, t0, t1, t2], w1) Q := r_P_run_114.trans (cf_xi hs)
theorem r_P_run_117 {l0 l1 l2 l3 l4 l5 : Option cf_AV} {i : Int32} {st : List cf_AV} {w : cf_Wd} {Q : cf_Rs → Prop} : cf_wp T_P_run (117, [l0, l1, l2, l3, l4, l5], .inl i :: .inr 25 :: st, w) Q ↔ (cf_in i 10 = true ∧ cf_wp T_P_run (118, [l0, l1, l2, l3, l4, l5], .inl (w 25 i.toNatClampNeg) :: st, w) Q) := cf_wg rfl
theorem r_P_run_118 {l1 l2 l3 l4 l5 : Option cf_AV} {k : Nat} {st : List cf_AV} {w : cf_Wd} {Q : cf_Rs → Prop} : cf_wp T_P_run (118, [some (.inr k), l1, l2, l3, l4, l5], st, w) Q ↔ cf_wp T_P_run (119, [some (.inr k), l1, l2, l3, l4, l5], .inr k :: st, w) Q := cf_w1 rfl
theorem r_P_run_119 {l0 l1 l2 l3 l4 l5 : Option cf_AV} {st : List cf_AV} {w : cf_Wd} {Q : cf_Rs → Prop} : cf_wp T_P_run (119, [l0, l1, l2, l3, l4, l5], .inr 15 :: st, w) Q ↔ cf_wp T_P_run (122, [l0, l1, l2, l3, l4, l5], .inr 25 :: st, w) Q := cf_w1 rfl
theorem r_P_run_122 {l1 l2 l3 l4 l5 : Option cf_AV} {k : Nat} {st : List cf_AV} {w : cf_Wd} {Q : cf_Rs → Prop} : cf_wp T_P_run (122, [some (.inr k), l1, l2, l3, l4, l5], st, w) Q ↔ cf_wp T_P_run (123, [some (.inr k), l1, l2, l3, l4, l5], .inr k :: st, w) Q := cf_w1 rfl
theorem r_P_run_123 {l0 l1 l3 l4 l5 : Option cf_AV} {x : Int32} {st : List cf_AV} {w : cf_Wd} {Q : cf_Rs → Prop} : cf_wp T_P_run (123, [l0, l1, some (.inl x), l3, l4, l5], st, w) Q ↔ cf_wp T_P_run (124, [l0, l1, some (.inl x), l3, l4, l5], .inl x :: st, w) Q := cf_w1 rfl
theorem r_P_run_124 {l0 l1 l2 l3 l4 l5 : Option cf_AV} {a1 : Int32} {t0 t1 t2 t3 : cf_AV} {w : cf_Wd} {Q : cf_Rs → Prop} : cf_wp T_P_run (124, [l0, l1, l2, l3, l4, l5], [.inl a1, .inr 15, t0, t1, t2, t3], w) Q ↔ ∃ x w1, F_P_b [.inr 15, .inl a1] w = some (some (.inl x), w1) ∧ cf_wp T_P_run (127, [l0, l1, l2, l3, l4, l5], [.inl x, t0, t1, t2, t3], w1) Q := cf_wci (n := 2) (F := F_P_b) (nx := 127) rfl rfl cf_F_i
theorem c_P_run_124 {l0 l1 l2 l3 l4 l5 : Option cf_AV} {a1 : Int32} {t0 t1 t2 t3 : cf_AV} {x1 : Int32} {w1 : cf_Wd} {w : cf_Wd} {Q : cf_Rs → Prop} (hs : F_P_b [.inr 15, .inl a1] w = some (some (.inl x1), w1)) : cf_wp T_P_run (124, [l0, l1, l2, l3, l4, l5], [.inl a1, .inr 15, t0, t1, t2, t3], w) Q ↔ cf_wp T_P_run (127, [l0, l1, l2, l3, l4, l5], [.inl x1, t0, t1, t2, t3], w1) Q := r_P_run_124.trans (cf_xi hs)
theorem r_P_run_127 {l0 l1 l2 l3 l4 l5 : Option cf_AV} {i : Int32} {st : List cf_AV} {w : cf_Wd} {Q : cf_Rs → Prop} : cf_wp T_P_run (127, [l0, l1, l2, l3, l4, l5], .inl i :: .inr 25 :: st, w) Q ↔ (cf_in i 10 = true ∧ cf_wp T_P_run (128, [l0, l1, l2, l3, l4, l5], .inl (w 25 i.toNatClampNeg) :: st, w) Q) := cf_wg rfl
theorem r_P_run_128 {l0 l1 l2 l3 l4 l5 : Option cf_AV} {x y : Int32} {st : List cf_AV} {w : cf_Wd} {Q : cf_Rs → Prop} : cf_wp T_P_run (128, [l0, l1, l2, l3, l4, l5], .inl y :: .inl x :: st, w) Q ↔ cf_wp T_P_run (129, [l0, l1, l2, l3, l4, l5], .inl (x + y) :: st, w) Q := cf_w1 rfl
theorem r_P_run_129 {l0 l1 l2 l3 l4 l5 : Option cf_AV} {x i : Int32} {st : List cf_AV} {w : cf_Wd} {Q : cf_Rs → Prop} : cf_wp T_P_run (129, [l0, l1, l2, l3, l4, l5], .inl x :: .inl i :: .inr 25 :: st, w) Q ↔ (cf_in i 10 = true ∧ cf_wp T_P_run (130, [l0, l1, l2, l3, l4, l5], st, (cf_wa w 25 (upd (w 25) i.toNatClampNeg x))) Q) := cf_wg rfl
theorem r_P_run_130 {l0 l1 l2 l3 l5 : Option cf_AV} {x : Int32} {st : List cf_AV} {w : cf_Wd} {Q : cf_Rs → Prop} : cf_wp T_P_run (130, [l0, l1, l2, l3, some (.inl x), l5], st, w) Q ↔ cf_wp T_P_run (132, [l0, l1, l2, l3, some (.inl x), l5], .inl x :: st, w) Q := cf_w1 rfl
theorem r_P_run_132 {l0 l1 l2 l3 l4 l5 : Option cf_AV} {st : List cf_AV} {w : cf_Wd} {Q : cf_Rs → Prop} : cf_wp T_P_run (132, [l0, l1, l2, l3, l4, l5], st, w) Q ↔ cf_wp T_P_run (133, [l0, l1, l2, l3, l4, l5], .inl 3 :: st, w) Q := cf_w1 rfl
theorem r_P_run_133 {l0 l1 l2 l3 l4 l5 : Option cf_AV} {x y : Int32} {st : List cf_AV} {w : cf_Wd} {Q : cf_Rs → Prop} : cf_wp T_P_run (133, [l0, l1, l2, l3, l4, l5], .inl y :: .inl x :: st, w) Q ↔ (if ¬ x = y then cf_wp T_P_run (171, [l0, l1, l2, l3, l4, l5], st, w) Q else cf_wp T_P_run (136, [l0, l1, l2, l3, l4, l5], st, w) Q) := cf_wi rfl
theorem r_P_run_136 {l1 l2 l3 l4 l5 : Option cf_AV} {k : Nat} {st : List cf_AV} {w : cf_Wd} {Q : cf_Rs → Prop} : cf_wp T_P_run (136, [some (.inr k), l1, l2, l3, l4, l5], st, w) Q ↔ cf_wp T_P_run (137, [some (.inr k), l1, l2, l3, l4, l5], .inr k :: st, w) Q := cf_w1 rfl
theorem r_P_run_137 {l0 l1 l2 l3 l4 l5 : Option cf_AV} {st : List cf_AV} {w : cf_Wd} {Q : cf_Rs → Prop} : cf_wp T_P_run (137, [l0, l1, l2, l3, l4, l5], .inr 15 :: st, w) Q ↔ cf_wp T_P_run (140, [l0, l1, l2, l3, l4, l5], .inr 25 :: st, w) Q := cf_w1 rfl
theorem r_P_run_140 {l1 l2 l3 l4 l5 : Option cf_AV} {k : Nat} {st : List cf_AV} {w : cf_Wd} {Q : cf_Rs → Prop} : cf_wp T_P_run (140, [some (.inr k), l1, l2, l3, l4, l5], st, w) Q ↔ cf_wp T_P_run (141, [some (.inr k), l1, l2, l3, l4, l5], .inr k :: st, w) Q := cf_w1 rfl
theorem r_P_run_141 {l0 l1 l3 l4 l5 : Option cf_AV} {x : Int32} {st : List cf_AV} {w : cf_Wd} {Q : cf_Rs → Prop} : cf_wp T_P_run (141, [l0, l1, some (.inl x), l3, l4, l5], st, w) Q ↔ cf_wp T_P_run (142, [l0, l1, some (.inl x), l3, l4, l5], .inl x :: st, w) Q := cf_w1 rfl
theorem r_P_run_142 {l0 l1 l2 l3 l4 l5 : Option cf_AV} {a1 : Int32} {t0 : cf_AV} {w : cf_Wd} {Q : cf_Rs → Prop} : cf_wp T_P_run (142, [l0, l1, l2, l3, l4, l5], [.inl a1, .inr 15, t0], w) Q ↔ ∃ x w1, F_P_a [.inr 15, .inl a1] w = some (some (.inl x), w1) ∧ cf_wp T_P_run (145, [l0, l1, l2, l3, l4, l5], [.inl x, t0], w1) Q := cf_wci (n := 2) (F := F_P_a) (nx := 145) rfl rfl cf_F_i
theorem c_P_run_142 {l0 l1 l2 l3 l4 l5 : Option cf_AV} {a1 : Int32} {t0 : cf_AV} {x1 : Int32} {w1 : cf_Wd} {w : cf_Wd} {Q : cf_Rs → Prop} (hs : F_P_a [.inr 15, .inl a1] w = some (some (.inl x1), w1)) : cf_wp T_P_run (142, [l0, l1, l2, l3, l4, l5], [.inl a1, .inr 15, t0], w) Q ↔ cf_wp T_P_run (145, [l0, l1, l2, l3, l4, l5], [.inl x1, t0], w1) Q := r_P_run_142.trans (cf_xi hs)
theorem r_P_run_145 {l0 l1 l2 l3 l4 l5 : Option cf_AV} {i : Int32} {st : List cf_AV} {w : cf_Wd} {Q : cf_Rs → Prop} : cf_wp T_P_run (145, [l0, l1, l2, l3, l4, l5], .inl i :: .inr 25 :: st, w) Q ↔ (cf_in i 10 = true ∧ cf_wp T_P_run (146, [l0, l1, l2, l3, l4, l5], .inl (w 25 i.toNatClampNeg) :: st, w) Q) := cf_wg rfl
theorem r_P_run_146 {l0 l1 l2 l3 l4 l5 : Option cf_AV} {x : Int32} {st : List cf_AV} {w : cf_Wd} {Q : cf_Rs → Prop} : cf_wp T_P_run (146, [l0, l1, l2, l3, l4, l5], .inl x :: st, w) Q ↔ (if x ≤ 0 then cf_wp T_P_run (171, [l0, l1, l2, l3, l4, l5], st, w) Q else cf_wp T_P_run (149, [l0, l1, l2, l3, l4, l5], st, w) Q) := cf_wi rfl
theorem r_P_run_149 {l1 l2 l3 l4 l5 : Option cf_AV} {k : Nat} {st : List cf_AV} {w : cf_Wd} {Q : cf_Rs → Prop} : cf_wp T_P_run (149, [some (.inr k), l1, l2, l3, l4, l5], st, w) Q ↔ cf_wp T_P_run (150, [some (.inr k), l1, l2, l3, l4, l5], .inr k :: st, w) Q := cf_w1 rfl
theorem r_P_run_150 {l0 l1 l2 l3 l4 l5 : Option cf_AV} {st : List cf_AV} {w : cf_Wd} {Q : cf_Rs → Prop} : cf_wp T_P_run (150, [l0, l1, l2, l3, l4, l5], .inr 15 :: st, w) Q ↔ cf_wp T_P_run (153, [l0, l1, l2, l3, l4, l5], .inr 25 :: st, w) Q := cf_w1 rfl
theorem r_P_run_153 {l1 l2 l3 l4 l5 : Option cf_AV} {k : Nat} {st : List cf_AV} {w : cf_Wd} {Q : cf_Rs → Prop} : cf_wp T_P_run (153, [some (.inr k), l1, l2, l3, l4, l5], st, w) Q ↔ cf_wp T_P_run (154, [some (.inr k), l1, l2, l3, l4, l5], .inr k :: st, w) Q := cf_w1 rfl
theorem r_P_run_154 {l0 l1 l3 l4 l5 : Option cf_AV} {x : Int32} {st : List cf_AV} {w : cf_Wd} {Q : cf_Rs → Prop} : cf_wp T_P_run (154, [l0, l1, some (.inl x), l3, l4, l5], st, w) Q ↔ cf_wp T_P_run (155, [l0, l1, some (.inl x), l3, l4, l5], .inl x :: st, w) Q := cf_w1 rfl
theorem r_P_run_155 {l0 l1 l2 l3 l4 l5 : Option cf_AV} {a1 : Int32} {t0 : cf_AV} {w : cf_Wd} {Q : cf_Rs → Prop} : cf_wp T_P_run (155, [l0, l1, l2, l3, l4, l5], [.inl a1, .inr 15, t0], w) Q ↔ ∃ x w1, F_P_a [.inr 15, .inl a1] w = some (some (.inl x), w1) ∧ cf_wp T_P_run (158, [l0, l1, l2, l3, l4, l5], [.inl x, t0], w1) Q := cf_wci (n := 2) (F := F_P_a) (nx := 158) rfl rfl cf_F_i
theorem c_P_run_155 {l0 l1 l2 l3 l4 l5 : Option cf_AV} {a1 : Int32} {t0 : cf_AV} {x1 : Int32} {w1 : cf_Wd} {w : cf_Wd} {Q : cf_Rs → Prop} (hs : F_P_a [.inr 15, .inl a1] w = some (some (.inl x1), w1)) : cf_wp T_P_run (155, [l0, l1, l2, l3, l4, l5], [.inl a1, .inr 15, t0], w) Q ↔ cf_wp T_P_run (158, [l0, l1, l2, l3, l4, l5], [.inl x1, t0], w1) Q := r_P_run_155.trans (cf_xi hs)
theorem r_P_run_158 {l1 l2 l3 l4 l5 : Option cf_AV} {k : Nat} {st : List cf_AV} {w : cf_Wd} {Q : cf_Rs → Prop} : cf_wp T_P_run (158, [some (.inr k), l1, l2, l3, l4, l5], st, w) Q ↔ cf_wp T_P_run (159, [some (.inr k), l1, l2, l3, l4, l5], .inr k :: st, w) Q := cf_w1 rfl
theorem r_P_run_159 {l0 l1 l2 l3 l4 l5 : Option cf_AV} {st : List cf_AV} {w : cf_Wd} {Q : cf_Rs → Prop} : cf_wp T_P_run (159, [l0, l1, l2, l3, l4, l5], .inr 15 :: st, w) Q ↔ cf_wp T_P_run (162, [l0, l1, l2, l3, l4, l5], .inr 25 :: st, w) Q := cf_w1 rfl
theorem r_P_run_162 {l1 l2 l3 l4 l5 : Option cf_AV} {k : Nat} {st : List cf_AV} {w : cf_Wd} {Q : cf_Rs → Prop} : cf_wp T_P_run (162, [some (.inr k), l1, l2, l3, l4, l5], st, w) Q ↔ cf_wp T_P_run (163, [some (.inr k), l1, l2, l3, l4, l5], .inr k :: st, w) Q := cf_w1 rfl
theorem r_P_run_163 {l0 l1 l3 l4 l5 : Option cf_AV} {x : Int32} {st : List cf_AV} {w : cf_Wd} {Q : cf_Rs → Prop} : cf_wp T_P_run (163, [l0, l1, some (.inl x), l3, l4, l5], st, w) Q ↔ cf_wp T_P_run (164, [l0, l1, some (.inl x), l3, l4, l5], .inl x :: st, w) Q := cf_w1 rfl
theorem r_P_run_164 {l0 l1 l2 l3 l4 l5 : Option cf_AV} {a1 : Int32} {t0 t1 t2 : cf_AV} {w : cf_Wd} {Q : cf_Rs → Prop} : cf_wp T_P_run (164, [l0, l1, l2, l3, l4, l5], [.inl a1, .inr 15, t0, t1, t2], w) Q ↔ ∃ x w1, F_P_a [.inr 15, .inl a1] w = some (some (.inl x), w1) ∧ cf_wp T_P_run (167, [l0, l1, l2, l3, l4, l5], [.inl x, t0, t1, t2], w1) Q := cf_wci (n := 2) (F := F_P_a) (nx := 167) rfl rfl cf_F_i
theorem c_P_run_164 {l0 l1 l2 l3 l4 l5 : Option cf_AV} {a1 : Int32} {t0 t1 t2 : cf_AV} {x1 : Int32} {w1 : cf_Wd} {w : cf_Wd} {Q : cf_Rs → Prop} (hs : F_P_a [.inr 15, .inl a1] w = some (some (.inl x1), w1)) : cf_wp T_P_run (164, [l0, l1, l2, l3, l4, l5], [.inl a1, .inr 15, t0, t1, t2], w) Q ↔ cf_wp T_P_run (167, [l0, l1, l2, l3, l4, l5], [.inl x1, t0, t1, t2], w1) Q := r_P_run_164.trans (cf_xi hs)
theorem r_P_run_167 {l0 l1 l2 l3 l4 l5 : Option cf_AV} {i : Int32} {st : List cf_AV} {w : cf_Wd} {Q : cf_Rs → Prop} : cf_wp T_P_run (167, [l0, l1, l2, l3, l4, l5], .inl i :: .inr 25 :: st, w) Q ↔ (cf_in i 10 = true ∧ cf_wp T_P_run (168, [l0, l1, l2, l3, l4, l5], .inl (w 25 i.toNatClampNeg) :: st, w) Q) := cf_wg rfl
theorem r_P_run_168 {l0 l1 l2 l3 l4 l5 : Option cf_AV} {st : List cf_AV} {w : cf_Wd} {Q : cf_Rs → Prop} : cf_wp T_P_run (168, [l0, l1, l2, l3, l4, l5], st, w) Q ↔ cf_wp T_P_run (169, [l0, l1, l2, l3, l4, l5], .inl 1 :: st, w) Q := cf_w1 rfl
theorem r_P_run_169 {l0 l1 l2 l3 l4 l5 : Option cf_AV} {x y : Int32} {st : List cf_AV} {w : cf_Wd} {Q : cf_Rs → Prop} : cf_wp T_P_run (169, [l0, l1, l2, l3, l4, l5], .inl y :: .inl x :: st, w) Q ↔ cf_wp T_P_run (170, [l0, l1, l2, l3, l4, l5], .inl (x - y) :: st, w) Q := cf_w1 rfl
theorem r_P_run_170 {l0 l1 l2 l3 l4 l5 : Option cf_AV} {x i : Int32} {st : List cf_AV} {w : cf_Wd} {Q : cf_Rs → Prop} : cf_wp T_P_run (170, [l0, l1, l2, l3, l4, l5], .inl x :: .inl i :: .inr 25 :: st, w) Q ↔ (cf_in i 10 = true ∧ cf_wp T_P_run (171, [l0, l1, l2, l3, l4, l5], st, (cf_wa w 25 (upd (w 25) i.toNatClampNeg x))) Q) := cf_wg rfl
theorem r_P_run_171 {l0 l1 l2 l3 l5 : Option cf_AV} {x : Int32} {st : List cf_AV} {w : cf_Wd} {Q : cf_Rs → Prop} : cf_wp T_P_run (171, [l0, l1, l2, l3, some (.inl x), l5], st, w) Q ↔ cf_wp T_P_run (173, [l0, l1, l2, l3, some (.inl x), l5], .inl x :: st, w) Q := cf_w1 rfl
theorem r_P_run_173 {l0 l1 l2 l3 l4 l5 : Option cf_AV} {st : List cf_AV} {w : cf_Wd} {Q : cf_Rs → Prop} : cf_wp T_P_run (173, [l0, l1, l2, l3, l4, l5], st, w) Q ↔ cf_wp T_P_run (174, [l0, l1, l2, l3, l4, l5], .inl 4 :: st, w) Q := cf_w1 rfl
theorem r_P_run_174 {l0 l1 l2 l3 l4 l5 : Option cf_AV} {st : List cf_AV} {w : cf_Wd} {Q : cf_Rs → Prop} : cf_wp T_P_run (174, [l0, l1, l2, l3, l4, l5], st, w) Q ↔ cf_wp T_P_run (175, [l0, l1, l2, l3, l4, l5], .inl 5 :: st, w) Q := cf_w1 rfl
theorem r_P_run_175 {l0 l1 l2 l3 l4 l5 : Option cf_AV} {a2 a1 a0 : Int32} {w : cf_Wd} {Q : cf_Rs → Prop} : cf_wp T_P_run (175, [l0, l1, l2, l3, l4, l5], [.inl a2, .inl a1, .inl a0], w) Q ↔ ∃ x w1, F_P_in [.inl a0, .inl a1, .inl a2] w = some (some (.inl x), w1) ∧ cf_wp T_P_run (178, [l0, l1, l2, l3, l4, l5], [.inl x], w1) Q := cf_wci (n := 3) (F := F_P_in) (nx := 178) rfl rfl cf_F_b
theorem c_P_run_175 {l0 l1 l2 l3 l4 l5 : Option cf_AV} {a2 a1 a0 : Int32} {x1 : Int32} {w1 : cf_Wd} {w : cf_Wd} {Q : cf_Rs → Prop} (hs : F_P_in [.inl a0, .inl a1, .inl a2] w = some (some (.inl x1), w1)) : cf_wp T_P_run (175, [l0, l1, l2, l3, l4, l5], [.inl a2, .inl a1, .inl a0], w) Q ↔ cf_wp T_P_run (178, [l0, l1, l2, l3, l4, l5], [.inl x1], w1) Q := r_P_run_175.trans (cf_xi hs)
theorem r_P_run_178 {l0 l1 l2 l3 l4 l5 : Option cf_AV} {x : Int32} {st : List cf_AV} {w : cf_Wd} {Q : cf_Rs → Prop} : cf_wp T_P_run (178, [l0, l1, l2, l3, l4, l5], .inl x :: st, w) Q ↔ (if x = 0 then cf_wp T_P_run (204, [l0, l1, l2, l3, l4, l5], st, w) Q else cf_wp T_P_run (181, [l0, l1, l2, l3, l4, l5], st, w) Q) := cf_wi rfl
theorem r_P_run_181 {l1 l2 l3 l4 l5 : Option cf_AV} {k : Nat} {st : List cf_AV} {w : cf_Wd} {Q : cf_Rs → Prop} : cf_wp T_P_run (181, [some (.inr k), l1, l2, l3, l4, l5], st, w) Q ↔ cf_wp T_P_run (182, [some (.inr k), l1, l2, l3, l4, l5], .inr k :: st, w) Q := cf_w1 rfl
theorem r_P_run_182 {l0 l1 l2 l3 l4 l5 : Option cf_AV} {st : List cf_AV} {w : cf_Wd} {Q : cf_Rs → Prop} : cf_wp T_P_run (182, [l0, l1, l2, l3, l4, l5], .inr 15 :: st, w) Q ↔ cf_wp T_P_run (185, [l0, l1, l2, l3, l4, l5], .inr 25 :: st, w) Q := cf_w1 rfl
theorem r_P_run_185 {l1 l2 l3 l4 l5 : Option cf_AV} {k : Nat} {st : List cf_AV} {w : cf_Wd} {Q : cf_Rs → Prop} : cf_wp T_P_run (185, [some (.inr k), l1, l2, l3, l4, l5], st, w) Q ↔ cf_wp T_P_run (186, [some (.inr k), l1, l2, l3, l4, l5], .inr k :: st, w) Q := cf_w1 rfl
theorem r_P_run_186 {l0 l1 l3 l4 l5 : Option cf_AV} {x : Int32} {st : List cf_AV} {w : cf_Wd} {Q : cf_Rs → Prop} : cf_wp T_P_run (186, [l0, l1, some (.inl x), l3, l4, l5], st, w) Q ↔ cf_wp T_P_run (187, [l0, l1, some (.inl x), l3, l4, l5], .inl x :: st, w) Q := cf_w1 rfl
theorem r_P_run_187 {l0 l1 l2 l3 l4 l5 : Option cf_AV} {a1 : Int32} {t0 : cf_AV} {w : cf_Wd} {Q : cf_Rs → Prop} : cf_wp T_P_run (187, [l0, l1, l2, l3, l4, l5], [.inl a1, .inr 15, t0], w) Q ↔ ∃ x w1, F_P_a [.inr 15, .inl a1] w = some (some (.inl x), w1) ∧ cf_wp T_P_run (190, [l0, l1, l2, l3, l4, l5], [.inl x, t0], w1) Q := cf_wci (n := 2) (F := F_P_a) (nx := 190) rfl rfl cf_F_i
theorem c_P_run_187 {l0 l1 l2 l3 l4 l5 : Option cf_AV} {a1 : Int32} {t0 : cf_AV} {x1 : Int32} {w1 : cf_Wd} {w : cf_Wd} {Q : cf_Rs → Prop} (hs : F_P_a [.inr 15, .inl a1] w = some (some (.inl x1), w1)) : cf_wp T_P_run (187, [l0, l1, l2, l3, l4, l5], [.inl a1, .inr 15, t0], w) Q ↔ cf_wp T_P_run (190, [l0, l1, l2, l3, l4, l5], [.inl x1, t0], w1) Q := r_P_run_187.trans (cf_xi hs)
theorem r_P_run_190 {l0 l1 l2 l3 l4 l5 : Option cf_AV} {i : Int32} {st : List cf_AV} {w : cf_Wd} {Q : cf_Rs → Prop} : cf_wp T_P_run (190, [l0, l1, l2, l3, l4, l5], .inl i :: .inr 25 :: st, w) Q ↔ (cf_in i 10 = true ∧ cf_wp T_P_run (191, [l0, l1, l2, l3, l4, l5], .inl (w 25 i.toNatClampNeg) :: st, w) Q) := cf_wg rfl
theorem r_P_run_191 {l0 l1 l2 l3 l4 l5 : Option cf_AV} {x : Int32} {st : List cf_AV} {w : cf_Wd} {Q : cf_Rs → Prop} : cf_wp T_P_run (191, [l0, l1, l2, l3, l4, l5], .inl x :: st, w) Q ↔ (if ¬ x = 0 then cf_wp T_P_run (204, [l0, l1, l2, l3, l4, l5], st, w) Q else cf_wp T_P_run (194, [l0, l1, l2, l3, l4, l5], st, w) Q) := cf_wi rfl
theorem r_P_run_194 {l1 l2 l3 l4 l5 : Option cf_AV} {k : Nat} {st : List cf_AV} {w : cf_Wd} {Q : cf_Rs → Prop} : cf_wp T_P_run (194, [some (.inr k), l1, l2, l3, l4, l5], st, w) Q ↔ cf_wp T_P_run (195, [some (.inr k), l1, l2, l3, l4, l5], .inr k :: st, w) Q := cf_w1 rfl
theorem r_P_run_195 {l0 l1 l2 l3 l4 l5 : Option cf_AV} {st : List cf_AV} {w : cf_Wd} {Q : cf_Rs → Prop} : cf_wp T_P_run (195, [l0, l1, l2, l3, l4, l5], .inr 15 :: st, w) Q ↔ cf_wp T_P_run (198, [l0, l1, l2, l3, l4, l5], .inr 23 :: st, w) Q := cf_w1 rfl
theorem r_P_run_198 {l0 l1 l3 l4 l5 : Option cf_AV} {x : Int32} {st : List cf_AV} {w : cf_Wd} {Q : cf_Rs → Prop} : cf_wp T_P_run (198, [l0, l1, some (.inl x), l3, l4, l5], st, w) Q ↔ cf_wp T_P_run (199, [l0, l1, some (.inl x), l3, l4, l5], .inl x :: st, w) Q := cf_w1 rfl
theorem r_P_run_199 {l0 l1 l2 l3 l4 l5 : Option cf_AV} {i : Int32} {st : List cf_AV} {w : cf_Wd} {Q : cf_Rs → Prop} : cf_wp T_P_run (199, [l0, l1, l2, l3, l4, l5], .inl i :: .inr 23 :: st, w) Q ↔ (cf_in i 8 = true ∧ cf_wp T_P_run (200, [l0, l1, l2, l3, l4, l5], .inl (w 23 i.toNatClampNeg) :: st, w) Q) := cf_wg rfl
theorem r_P_run_200 {l0 l1 l2 l3 l4 l5 : Option cf_AV} {st : List cf_AV} {w : cf_Wd} {Q : cf_Rs → Prop} : cf_wp T_P_run (200, [l0, l1, l2, l3, l4, l5], st, w) Q ↔ cf_wp T_P_run (201, [l0, l1, l2, l3, l4, l5], .inl 1 :: st, w) Q := cf_w1 rfl
theorem r_P_run_201 {l0 l1 l2 l3 l4 l5 : Option cf_AV} {x y : Int32} {st : List cf_AV} {w : cf_Wd} {Q : cf_Rs → Prop} : cf_wp T_P_run (201, [l0, l1, l2, l3, l4, l5], .inl y :: .inl x :: st, w) Q ↔ cf_wp T_P_run (202, [l0, l1, l2, l3, l4, l5], .inl (x + y) :: st, w) Q := cf_w1 rfl
theorem r_P_run_202 {l0 l1 l2 l3 l4 l5 : Option cf_AV} {x : Int32} {st : List cf_AV} {w : cf_Wd} {Q : cf_Rs → Prop} : cf_wp T_P_run (202, [l0, l1, l2, l3, l4, l5], .inl x :: st, w) Q ↔ cf_wp T_P_run (204, [l0, l1, l2, l3, l4, some (.inl x)], st, w) Q := cf_w1 rfl
theorem r_P_run_204 {l0 l1 l2 l3 l5 : Option cf_AV} {x : Int32} {st : List cf_AV} {w : cf_Wd} {Q : cf_Rs → Prop} : cf_wp T_P_run (204, [l0, l1, l2, l3, some (.inl x), l5], st, w) Q ↔ cf_wp T_P_run (206, [l0, l1, l2, l3, some (.inl x), l5], .inl x :: st, w) Q := cf_w1 rfl
theorem r_P_run_206 {l0 l1 l2 l3 l4 l5 : Option cf_AV} {st : List cf_AV} {w : cf_Wd} {Q : cf_Rs → Prop} : cf_wp T_P_run (206, [l0, l1, l2, l3, l4, l5], st, w) Q ↔ cf_wp T_P_run (208, [l0, l1, l2, l3, l4, l5], .inl 6 :: st, w) Q := cf_w1 rfl
theorem r_P_run_208 {l0 l1 l2 l3 l4 l5 : Option cf_AV} {x y : Int32} {st : List cf_AV} {w : cf_Wd} {Q : cf_Rs → Prop} : cf_wp T_P_run (208, [l0, l1, l2, l3, l4, l5], .inl y :: .inl x :: st, w) Q ↔ (if ¬ x = y then cf_wp T_P_run (233, [l0, l1, l2, l3, l4, l5], st, w) Q else cf_wp T_P_run (211, [l0, l1, l2, l3, l4, l5], st, w) Q) := cf_wi rfl
theorem r_P_run_211 {l1 l2 l3 l4 l5 : Option cf_AV} {k : Nat} {st : List cf_AV} {w : cf_Wd} {Q : cf_Rs → Prop} : cf_wp T_P_run (211, [some (.inr k), l1, l2, l3, l4, l5], st, w) Q ↔ cf_wp T_P_run (212, [some (.inr k), l1, l2, l3, l4, l5], .inr k :: st, w) Q := cf_w1 rfl
theorem r_P_run_212 {l1 l2 l3 l4 l5 : Option cf_AV} {k : Nat} {st : List cf_AV} {w : cf_Wd} {Q : cf_Rs → Prop} : cf_wp T_P_run (212, [some (.inr k), l1, l2, l3, l4, l5], st, w) Q ↔ cf_wp T_P_run (213, [some (.inr k), l1, l2, l3, l4, l5], .inr k :: st, w) Q := cf_w1 rfl
theorem r_P_run_213 {l0 l1 l2 l3 l4 l5 : Option cf_AV} {st : List cf_AV} {w : cf_Wd} {Q : cf_Rs → Prop} : cf_wp T_P_run (213, [l0, l1, l2, l3, l4, l5], .inr 15 :: st, w) Q ↔ cf_wp T_P_run (216, [l0, l1, l2, l3, l4, l5], .inr 23 :: st, w) Q := cf_w1 rfl
theorem r_P_run_216 {l0 l1 l3 l4 l5 : Option cf_AV} {x : Int32} {st : List cf_AV} {w : cf_Wd} {Q : cf_Rs → Prop} : cf_wp T_P_run (216, [l0, l1, some (.inl x), l3, l4, l5], st, w) Q ↔ cf_wp T_P_run (217, [l0, l1, some (.inl x), l3, l4, l5], .inl x :: st, w) Q := cf_w1 rfl
theorem r_P_run_217 {l0 l1 l2 l3 l4 l5 : Option cf_AV} {i : Int32} {st : List cf_AV} {w : cf_Wd} {Q : cf_Rs → Prop} : cf_wp T_P_run (217, [l0, l1, l2, l3, l4, l5], .inl i :: .inr 23 :: st, w) Q ↔ (cf_in i 8 = true ∧ cf_wp T_P_run (218, [l0, l1, l2, l3, l4, l5], .inl (w 23 i.toNatClampNeg) :: st, w) Q) := cf_wg rfl
theorem r_P_run_218 {l0 l1 l2 l3 l4 l5 : Option cf_AV} {a1 : Int32} {w : cf_Wd} {Q : cf_Rs → Prop} : cf_wp T_P_run (218, [l0, l1, l2, l3, l4, l5], [.inl a1, .inr 15], w) Q ↔ ∃ x w1, F_P_operation [.inr 15, .inl a1] w = some (some (.inl x), w1) ∧ cf_wp T_P_run (221, [l0, l1, l2, l3, l4, l5], [.inl x], w1) Q := cf_wci (n := 2) (F := F_P_operation) (nx := 221) rfl rfl cf_F_i
theorem c_P_run_218 {l0 l1 l2 l3 l4 l5 : Option cf_AV} {a1 : Int32} {x1 : Int32} {w1 : cf_Wd} {w : cf_Wd} {Q : cf_Rs → Prop} (hs : F_P_operation [.inr 15, .inl a1] w = some (some (.inl x1), w1)) : cf_wp T_P_run (218, [l0, l1, l2, l3, l4, l5], [.inl a1, .inr 15], w) Q ↔ cf_wp T_P_run (221, [l0, l1, l2, l3, l4, l5], [.inl x1], w1) Q := r_P_run_218.trans (cf_xi hs)
theorem r_P_run_221 {l0 l1 l2 l3 l4 l5 : Option cf_AV} {st : List cf_AV} {w : cf_Wd} {Q : cf_Rs → Prop} : cf_wp T_P_run (221, [l0, l1, l2, l3, l4, l5], st, w) Q ↔ cf_wp T_P_run (222, [l0, l1, l2, l3, l4, l5], .inl 4 :: st, w) Q := cf_w1 rfl
theorem r_P_run_222 {l0 l1 l2 l3 l4 l5 : Option cf_AV} {x y : Int32} {st : List cf_AV} {w : cf_Wd} {Q : cf_Rs → Prop} : cf_wp T_P_run (222, [l0, l1, l2, l3, l4, l5], .inl y :: .inl x :: st, w) Q ↔ (if ¬ x = y then cf_wp T_P_run (233, [l0, l1, l2, l3, l4, l5], st, w) Q else cf_wp T_P_run (225, [l0, l1, l2, l3, l4, l5], st, w) Q) := cf_wi rfl
theorem r_P_run_225 {l1 l2 l3 l4 l5 : Option cf_AV} {k : Nat} {st : List cf_AV} {w : cf_Wd} {Q : cf_Rs → Prop} : cf_wp T_P_run (225, [some (.inr k), l1, l2, l3, l4, l5], st, w) Q ↔ cf_wp T_P_run (226, [some (.inr k), l1, l2, l3, l4, l5], .inr k :: st, w) Q := cf_w1 rfl
theorem r_P_run_226 {l0 l1 l2 l3 l4 l5 : Option cf_AV} {st : List cf_AV} {w : cf_Wd} {Q : cf_Rs → Prop} : cf_wp T_P_run (226, [l0, l1, l2, l3, l4, l5], .inr 15 :: st, w) Q ↔ cf_wp T_P_run (229, [l0, l1, l2, l3, l4, l5], .inr 23 :: st, w) Q := cf_w1 rfl
theorem r_P_run_229 {l0 l1 l3 l4 l5 : Option cf_AV} {x : Int32} {st : List cf_AV} {w : cf_Wd} {Q : cf_Rs → Prop} : cf_wp T_P_run (229, [l0, l1, some (.inl x), l3, l4, l5], st, w) Q ↔ cf_wp T_P_run (230, [l0, l1, some (.inl x), l3, l4, l5], .inl x :: st, w) Q := cf_w1 rfl
theorem r_P_run_230 {l0 l1 l2 l3 l4 l5 : Option cf_AV} {i : Int32} {st : List cf_AV} {w : cf_Wd} {Q : cf_Rs → Prop} : cf_wp T_P_run (230, [l0, l1, l2, l3, l4, l5], .inl i :: .inr 23 :: st, w) Q ↔ (cf_in i 8 = true ∧ cf_wp T_P_run (231, [l0, l1, l2, l3, l4, l5], .inl (w 23 i.toNatClampNeg) :: st, w) Q) := cf_wg rfl
theorem r_P_run_231 {l0 l1 l2 l3 l4 l5 : Option cf_AV} {x : Int32} {st : List cf_AV} {w : cf_Wd} {Q : cf_Rs → Prop} : cf_wp T_P_run (231, [l0, l1, l2, l3, l4, l5], .inl x :: st, w) Q ↔ cf_wp T_P_run (233, [l0, l1, l2, l3, l4, some (.inl x)], st, w) Q := cf_w1 rfl
theorem r_P_run_233 {l0 l1 l2 l3 l5 : Option cf_AV} {x : Int32} {st : List cf_AV} {w : cf_Wd} {Q : cf_Rs → Prop} : cf_wp T_P_run (233, [l0, l1, l2, l3, some (.inl x), l5], st, w) Q ↔ cf_wp T_P_run (235, [l0, l1, l2, l3, some (.inl x), l5], .inl x :: st, w) Q := cf_w1 rfl
theorem r_P_run_235 {l0 l1 l2 l3 l4 l5 : Option cf_AV} {st : List cf_AV} {w : cf_Wd} {Q : cf_Rs → Prop} : cf_wp T_P_run (235, [l0, l1, l2, l3, l4, l5], st, w) Q ↔ cf_wp T_P_run (237, [l0, l1, l2, l3, l4, l5], .inl 7 :: st, w) Q := cf_w1 rfl
theorem r_P_run_237 {l0 l1 l2 l3 l4 l5 : Option cf_AV} {x y : Int32} {st : List cf_AV} {w : cf_Wd} {Q : cf_Rs → Prop} : cf_wp T_P_run (237, [l0, l1, l2, l3, l4, l5], .inl y :: .inl x :: st, w) Q ↔ (if ¬ x = y then cf_wp T_P_run (260, [l0, l1, l2, l3, l4, l5], st, w) Q else cf_wp T_P_run (240, [l0, l1, l2, l3, l4, l5], st, w) Q) := cf_wi rfl
theorem r_P_run_240 {l1 l2 l3 l4 l5 : Option cf_AV} {k : Nat} {st : List cf_AV} {w : cf_Wd} {Q : cf_Rs → Prop} : cf_wp T_P_run (240, [some (.inr k), l1, l2, l3, l4, l5], st, w) Q ↔ cf_wp T_P_run (241, [some (.inr k), l1, l2, l3, l4, l5], .inr k :: st, w) Q := cf_w1 rfl
theorem r_P_run_241 {l0 l1 l2 l3 l4 l5 : Option cf_AV} {st : List cf_AV} {w : cf_Wd} {Q : cf_Rs → Prop} : cf_wp T_P_run (241, [l0, l1, l2, l3, l4, l5], .inr 15 :: st, w) Q ↔ cf_wp T_P_run (244, [l0, l1, l2, l3, l4, l5], .inr 25 :: st, w) Q := cf_w1 rfl
theorem r_P_run_244 {l1 l2 l3 l4 l5 : Option cf_AV} {k : Nat} {st : List cf_AV} {w : cf_Wd} {Q : cf_Rs → Prop} : cf_wp T_P_run (244, [some (.inr k), l1, l2, l3, l4, l5], st, w) Q ↔ cf_wp T_P_run (245, [some (.inr k), l1, l2, l3, l4, l5], .inr k :: st, w) Q := cf_w1 rfl
theorem r_P_run_245 {l0 l1 l3 l4 l5 : Option cf_AV} {x : Int32} {st : List cf_AV} {w : cf_Wd} {Q : cf_Rs → Prop} : cf_wp T_P_run (245, [l0, l1, some (.inl x), l3, l4, l5], st, w) Q ↔ cf_wp T_P_run (246, [l0, l1, some (.inl x), l3, l4, l5], .inl x :: st, w) Q := cf_w1 rfl
theorem r_P_run_246 {l0 l1 l2 l3 l4 l5 : Option cf_AV} {a1 : Int32} {t0 : cf_AV} {w : cf_Wd} {Q : cf_Rs → Prop} : cf_wp T_P_run (246, [l0, l1, l2, l3, l4, l5], [.inl a1, .inr 15, t0], w) Q ↔ ∃ x w1, F_P_a [.inr 15, .inl a1] w = some (some (.inl x), w1) ∧ cf_wp T_P_run (249, [l0, l1, l2, l3, l4, l5], [.inl x, t0], w1) Q := cf_wci (n := 2) (F := F_P_a) (nx := 249) rfl rfl cf_F_i
theorem c_P_run_246 {l0 l1 l2 l3 l4 l5 : Option cf_AV} {a1 : Int32} {t0 : cf_AV} {x1 : Int32} {w1 : cf_Wd} {w : cf_Wd} {Q : cf_Rs → Prop} (hs : F_P_a [.inr 15, .inl a1] w = some (some (.inl x1), w1)) : cf_wp T_P_run (246, [l0, l1, l2, l3, l4, l5], [.inl a1, .inr 15, t0], w) Q ↔ cf_wp T_P_run (249, [l0, l1, l2, l3, l4, l5], [.inl x1, t0], w1) Q := r_P_run_246.trans (cf_xi hs)
theorem r_P_run_249 {l0 l1 l2 l3 l4 l5 : Option cf_AV} {i : Int32} {st : List cf_AV} {w : cf_Wd} {Q : cf_Rs → Prop} : cf_wp T_P_run (249, [l0, l1, l2, l3, l4, l5], .inl i :: .inr 25 :: st, w) Q ↔ (cf_in i 10 = true ∧ cf_wp T_P_run (250, [l0, l1, l2, l3, l4, l5], .inl (w 25 i.toNatClampNeg) :: st, w) Q) := cf_wg rfl
theorem r_P_run_250 {l1 l2 l3 l4 l5 : Option cf_AV} {k : Nat} {st : List cf_AV} {w : cf_Wd} {Q : cf_Rs → Prop} : cf_wp T_P_run (250, [some (.inr k), l1, l2, l3, l4, l5], st, w) Q ↔ cf_wp T_P_run (251, [some (.inr k), l1, l2, l3, l4, l5], .inr k :: st, w) Q := cf_w1 rfl
theorem r_P_run_251 {l0 l1 l3 l4 l5 : Option cf_AV} {x : Int32} {st : List cf_AV} {w : cf_Wd} {Q : cf_Rs → Prop} : cf_wp T_P_run (251, [l0, l1, some (.inl x), l3, l4, l5], st, w) Q ↔ cf_wp T_P_run (252, [l0, l1, some (.inl x), l3, l4, l5], .inl x :: st, w) Q := cf_w1 rfl
theorem r_P_run_252 {l0 l1 l2 l3 l4 l5 : Option cf_AV} {a1 : Int32} {t0 : cf_AV} {w : cf_Wd} {Q : cf_Rs → Prop} : cf_wp T_P_run (252, [l0, l1, l2, l3, l4, l5], [.inl a1, .inr 15, t0], w) Q ↔ ∃ x w1, F_P_b [.inr 15, .inl a1] w = some (some (.inl x), w1) ∧ cf_wp T_P_run (255, [l0, l1, l2, l3, l4, l5], [.inl x, t0], w1) Q := cf_wci (n := 2) (F := F_P_b) (nx := 255) rfl rfl cf_F_i
theorem c_P_run_252 {l0 l1 l2 l3 l4 l5 : Option cf_AV} {a1 : Int32} {t0 : cf_AV} {x1 : Int32} {w1 : cf_Wd} {w : cf_Wd} {Q : cf_Rs → Prop} (hs : F_P_b [.inr 15, .inl a1] w = some (some (.inl x1), w1)) : cf_wp T_P_run (252, [l0, l1, l2, l3, l4, l5], [.inl a1, .inr 15, t0], w) Q ↔ cf_wp T_P_run (255, [l0, l1, l2, l3, l4, l5], [.inl x1, t0], w1) Q := r_P_run_252.trans (cf_xi hs)
theorem r_P_run_255 {l0 l1 l2 l3 l4 l5 : Option cf_AV} {x y : Int32} {st : List cf_AV} {w : cf_Wd} {Q : cf_Rs → Prop} : cf_wp T_P_run (255, [l0, l1, l2, l3, l4, l5], .inl y :: .inl x :: st, w) Q ↔ (if x = y then cf_wp T_P_run (260, [l0, l1, l2, l3, l4, l5], st, w) Q else cf_wp T_P_run (258, [l0, l1, l2, l3, l4, l5], st, w) Q) := cf_wi rfl
theorem r_P_run_258 {l0 l1 l2 l3 l4 l5 : Option cf_AV} {st : List cf_AV} {w : cf_Wd} {Q : cf_Rs → Prop} : cf_wp T_P_run (258, [l0, l1, l2, l3, l4, l5], st, w) Q ↔ cf_wp T_P_run (259, [l0, l1, l2, l3, l4, l5], .inl 2 :: st, w) Q := cf_w1 rfl
theorem r_P_run_259 {l0 l1 l2 l3 l4 l5 : Option cf_AV} {x : Int32} {w : cf_Wd} {P : Int32 → cf_Wd → Prop} : cf_wp T_P_run (259, [l0, l1, l2, l3, l4, l5], [.inl x], w) (cf_qi P) ↔ P x w := Iff.trans (cf_wr (q := (some (.inl x), w)) rfl) Iff.rfl
theorem r_P_run_260 {l0 l1 l2 l3 l5 : Option cf_AV} {x : Int32} {st : List cf_AV} {w : cf_Wd} {Q : cf_Rs → Prop} : cf_wp T_P_run (260, [l0, l1, l2, l3, some (.inl x), l5], st, w) Q ↔ cf_wp T_P_run (262, [l0, l1, l2, l3, some (.inl x), l5], .inl x :: st, w) Q := cf_w1 rfl
theorem r_P_run_262 {l0 l1 l2 l3 l4 l5 : Option cf_AV} {st : List cf_AV} {w : cf_Wd} {Q : cf_Rs → Prop} : cf_wp T_P_run (262, [l0, l1, l2, l3, l4, l5], st, w) Q ↔ cf_wp T_P_run (264, [l0, l1, l2, l3, l4, l5], .inl 8 :: st, w) Q := cf_w1 rfl
theorem r_P_run_264 {l0 l1 l2 l3 l4 l5 : Option cf_AV} {x y : Int32} {st : List cf_AV} {w : cf_Wd} {Q : cf_Rs → Prop} : cf_wp T_P_run (264, [l0, l1, l2, l3, l4, l5], .inl y :: .inl x :: st, w) Q ↔ (if ¬ x = y then cf_wp T_P_run (287, [l0, l1, l2, l3, l4, l5], st, w) Q else cf_wp T_P_run (267, [l0, l1, l2, l3, l4, l5], st, w) Q) := cf_wi rfl
theorem r_P_run_267 {l1 l2 l3 l4 l5 : Option cf_AV} {k : Nat} {st : List cf_AV} {w : cf_Wd} {Q : cf_Rs → Prop} : cf_wp T_P_run (267, [some (.inr k), l1, l2, l3, l4, l5], st, w) Q ↔ cf_wp T_P_run (268, [some (.inr k), l1, l2, l3, l4, l5], .inr k :: st, w) Q := cf_w1 rfl
theorem r_P_run_268 {l0 l1 l2 l3 l4 l5 : Option cf_AV} {st : List cf_AV} {w : cf_Wd} {Q : cf_Rs → Prop} : cf_wp T_P_run (268, [l0, l1, l2, l3, l4, l5], .inr 15 :: st, w) Q ↔ cf_wp T_P_run (271, [l0, l1, l2, l3, l4, l5], .inr 25 :: st, w) Q := cf_w1 rfl
theorem r_P_run_271 {l1 l2 l3 l4 l5 : Option cf_AV} {k : Nat} {st : List cf_AV} {w : cf_Wd} {Q : cf_Rs → Prop} : cf_wp T_P_run (271, [some (.inr k), l1, l2, l3, l4, l5], st, w) Q ↔ cf_wp T_P_run (272, [some (.inr k), l1, l2, l3, l4, l5], .inr k :: st, w) Q := cf_w1 rfl
theorem r_P_run_272 {l0 l1 l3 l4 l5 : Option cf_AV} {x : Int32} {st : List cf_AV} {w : cf_Wd} {Q : cf_Rs → Prop} : cf_wp T_P_run (272, [l0, l1, some (.inl x), l3, l4, l5], st, w) Q ↔ cf_wp T_P_run (273, [l0, l1, some (.inl x), l3, l4, l5], .inl x :: st, w) Q := cf_w1 rfl
theorem r_P_run_273 {l0 l1 l2 l3 l4 l5 : Option cf_AV} {a1 : Int32} {t0 : cf_AV} {w : cf_Wd} {Q : cf_Rs → Prop} : cf_wp T_P_run (273, [l0, l1, l2, l3, l4, l5], [.inl a1, .inr 15, t0], w) Q ↔ ∃ x w1, F_P_a [.inr 15, .inl a1] w = some (some (.inl x), w1) ∧ cf_wp T_P_run (276, [l0, l1, l2, l3, l4, l5], [.inl x, t0], w1) Q := cf_wci (n := 2) (F := F_P_a) (nx := 276) rfl rfl cf_F_i
theorem c_P_run_273 {l0 l1 l2 l3 l4 l5 : Option cf_AV} {a1 : Int32} {t0 : cf_AV} {x1 : Int32} {w1 : cf_Wd} {w : cf_Wd} {Q : cf_Rs → Prop} (hs : F_P_a [.inr 15, .inl a1] w = some (some (.inl x1), w1)) : cf_wp T_P_run (273, [l0, l1, l2, l3, l4, l5], [.inl a1, .inr 15, t0], w) Q ↔ cf_wp T_P_run (276, [l0, l1, l2, l3, l4, l5], [.inl x1, t0], w1) Q := r_P_run_273.trans (cf_xi hs)
theorem r_P_run_276 {l1 l2 l3 l4 l5 : Option cf_AV} {k : Nat} {st : List cf_AV} {w : cf_Wd} {Q : cf_Rs → Prop} : cf_wp T_P_run (276, [some (.inr k), l1, l2, l3, l4, l5], st, w) Q ↔ cf_wp T_P_run (277, [some (.inr k), l1, l2, l3, l4, l5], .inr k :: st, w) Q := cf_w1 rfl
theorem r_P_run_277 {l0 l1 l2 l3 l4 l5 : Option cf_AV} {st : List cf_AV} {w : cf_Wd} {Q : cf_Rs → Prop} : cf_wp T_P_run (277, [l0, l1, l2, l3, l4, l5], .inr 15 :: st, w) Q ↔ cf_wp T_P_run (280, [l0, l1, l2, l3, l4, l5], .inr 25 :: st, w) Q := cf_w1 rfl
theorem r_P_run_280 {l1 l2 l3 l4 l5 : Option cf_AV} {k : Nat} {st : List cf_AV} {w : cf_Wd} {Q : cf_Rs → Prop} : cf_wp T_P_run (280, [some (.inr k), l1, l2, l3, l4, l5], st, w) Q ↔ cf_wp T_P_run (281, [some (.inr k), l1, l2, l3, l4, l5], .inr k :: st, w) Q := cf_w1 rfl
theorem r_P_run_281 {l0 l1 l3 l4 l5 : Option cf_AV} {x : Int32} {st : List cf_AV} {w : cf_Wd} {Q : cf_Rs → Prop} : cf_wp T_P_run (281, [l0, l1, some (.inl x), l3, l4, l5], st, w) Q ↔ cf_wp T_P_run (282, [l0, l1, some (.inl x), l3, l4, l5], .inl x :: st, w) Q := cf_w1 rfl
theorem r_P_run_282 {l0 l1 l2 l3 l4 l5 : Option cf_AV} {a1 : Int32} {t0 t1 t2 : cf_AV} {w : cf_Wd} {Q : cf_Rs → Prop} : cf_wp T_P_run (282, [l0, l1, l2, l3, l4, l5], [.inl a1, .inr 15, t0, t1, t2], w) Q ↔ ∃ x w1, F_P_b [.inr 15, .inl a1] w = some (some (.inl x), w1) ∧ cf_wp T_P_run (285, [l0, l1, l2, l3, l4, l5], [.inl x, t0, t1, t2], w1) Q := cf_wci (n := 2) (F := F_P_b) (nx := 285) rfl rfl cf_F_i
theorem c_P_run_282 {l0 l1 l2 l3 l4 l5 : Option cf_AV} {a1 : Int32} {t0 t1 t2 : cf_AV} {x1 : Int32} {w1 : cf_Wd} {w : cf_Wd} {Q : cf_Rs → Prop} (hs : F_P_b [.inr 15, .inl a1] w = some (some (.inl x1), w1)) : cf_wp T_P_run (282, [l0, l1, l2, l3, l4, l5], [.inl a1, .inr 15, t0, t1, t2], w) Q ↔ cf_wp T_P_run (285, [l0, l1, l2, l3, l4, l5], [.inl x1, t0, t1, t2], w1) Q := r_P_run_282.trans (cf_xi hs)
theorem r_P_run_285 {l0 l1 l2 l3 l4 l5 : Option cf_AV} {i : Int32} {st : List cf_AV} {w : cf_Wd} {Q : cf_Rs → Prop} : cf_wp T_P_run (285, [l0, l1, l2, l3, l4, l5], .inl i :: .inr 25 :: st, w) Q ↔ (cf_in i 10 = true ∧ cf_wp T_P_run (286, [l0, l1, l2, l3, l4, l5], .inl (w 25 i.toNatClampNeg) :: st, w) Q) := cf_wg rfl
theorem r_P_run_286 {l0 l1 l2 l3 l4 l5 : Option cf_AV} {x i : Int32} {st : List cf_AV} {w : cf_Wd} {Q : cf_Rs → Prop} : cf_wp T_P_run (286, [l0, l1, l2, l3, l4, l5], .inl x :: .inl i :: .inr 25 :: st, w) Q ↔ (cf_in i 10 = true ∧ cf_wp T_P_run (287, [l0, l1, l2, l3, l4, l5], st, (cf_wa w 25 (upd (w 25) i.toNatClampNeg x))) Q) := cf_wg rfl
theorem r_P_run_287 {l0 l1 l2 l3 l4 : Option cf_AV} {x : Int32} {st : List cf_AV} {w : cf_Wd} {Q : cf_Rs → Prop} : cf_wp T_P_run (287, [l0, l1, l2, l3, l4, some (.inl x)], st, w) Q ↔ cf_wp T_P_run (289, [l0, l1, l2, l3, l4, some (.inl x)], .inl x :: st, w) Q := cf_w1 rfl
theorem r_P_run_289 {l0 l1 l2 l3 l4 l5 : Option cf_AV} {x : Int32} {st : List cf_AV} {w : cf_Wd} {Q : cf_Rs → Prop} : cf_wp T_P_run (289, [l0, l1, l2, l3, l4, l5], .inl x :: st, w) Q ↔ cf_wp T_P_run (290, [l0, l1, some (.inl x), l3, l4, l5], st, w) Q := cf_w1 rfl
theorem r_P_run_290 {l0 l1 l2 l3 l4 l5 : Option cf_AV} {st : List cf_AV} {w : cf_Wd} {Q : cf_Rs → Prop} : cf_wp T_P_run (290, [l0, l1, l2, l3, l4, l5], st, w) Q ↔ cf_wp T_P_run (42, [l0, l1, l2, l3, l4, l5], st, w) Q := cf_w1 rfl
theorem r_P_run_293 {l0 l1 l2 l3 l4 l5 : Option cf_AV} {st : List cf_AV} {w : cf_Wd} {Q : cf_Rs → Prop} : cf_wp T_P_run (293, [l0, l1, l2, l3, l4, l5], st, w) Q ↔ cf_wp T_P_run (294, [l0, l1, l2, l3, l4, l5], .inl 1 :: st, w) Q := cf_w1 rfl
theorem r_P_run_294 {l0 l1 l2 l3 l4 l5 : Option cf_AV} {x : Int32} {w : cf_Wd} {P : Int32 → cf_Wd → Prop} : cf_wp T_P_run (294, [l0, l1, l2, l3, l4, l5], [.inl x], w) (cf_qi P) ↔ P x w := Iff.trans (cf_wr (q := (some (.inl x), w)) rfl) Iff.rfl
theorem e_P_run {a1 : Int32} {w : cf_Wd} {P : Int32 → cf_Wd → Prop} (h : cf_wp T_P_run (0, [some (.inr 15), some (.inl a1), none, none, none, none], [], w) (cf_qi P)) : ∃ x w1, F_P_run [.inr 15, .inl a1] w = some (some (.inl x), w1) ∧ P x w1 := cf_ei rfl (Nat.le_of_ble_eq_true rfl) h
noncomputable def T_P_load (pc : Nat) : cf_Rw := bif Nat.ble pc 14 then
 (bif Nat.ble pc 5 then
  (bif Nat.ble pc 1 then
   (bif Nat.ble pc 0 then
    (bif Nat.beq pc 0 then cf_const 0 1 else cf_stuck)
    else
    (bif Nat.beq pc 1 then cf_istore 2 2 else cf_stuck))
   else
   (bif Nat.ble pc 2 then
    (bif Nat.beq pc 2 then cf_iload 2 3 else cf_stuck)
    else
    (bif Nat.ble pc 3 then
     (bif Nat.beq pc 3 then cf_const 8 5 else cf_stuck)
     else
     (bif Nat.beq pc 5 then cf_icge 31 8 else cf_stuck))))
  else
  (bif Nat.ble pc 9 then
   (bif Nat.ble pc 8 then
    (bif Nat.beq pc 8 then cf_aload 0 9 else cf_stuck)
    else
    (bif Nat.beq pc 9 then cf_get 5 14 12 else cf_stuck))
   else
   (bif Nat.ble pc 12 then
    (bif Nat.beq pc 12 then cf_iload 2 13 else cf_stuck)
    else
    (bif Nat.ble pc 13 then
     (bif Nat.beq pc 13 then cf_aload 0 14 else cf_stuck)
     else
     (bif Nat.beq pc 14 then cf_get 5 3 17 else cf_stuck)))))
 else
 (bif Nat.ble pc 22 then
  (bif Nat.ble pc 19 then
   (bif Nat.ble pc 17 then
    (bif Nat.beq pc 17 then cf_const 8 19 else cf_stuck)
    else
    (bif Nat.beq pc 19 then cf_iload 1 20 else cf_stuck))
   else
   (bif Nat.ble pc 20 then
    (bif Nat.beq pc 20 then cf_bin (fun x y => x * y) 21 else cf_stuck)
    else
    (bif Nat.ble pc 21 then
     (bif Nat.beq pc 21 then cf_iload 2 22 else cf_stuck)
     else
     (bif Nat.beq pc 22 then cf_bin (fun x y => x + y) 23 else cf_stuck))))
  else
  (bif Nat.ble pc 24 then
   (bif Nat.ble pc 23 then
    (bif Nat.beq pc 23 then cf_iald 24 else cf_stuck)
    else
    (bif Nat.beq pc 24 then cf_iast 25 else cf_stuck))
   else
   (bif Nat.ble pc 25 then
    (bif Nat.beq pc 25 then cf_iinc 2 1 28 else cf_stuck)
    else
    (bif Nat.ble pc 28 then
     (bif Nat.beq pc 28 then cf_goto 2 else cf_stuck)
     else
     (bif Nat.beq pc 31 then cf_vret else cf_stuck)))))
noncomputable def F_P_load : List cf_AV → cf_Wd → Option cf_Rs := cf_F T_P_load 3 none (cf_shV 15 1)
theorem r_P_load_0 {l0 l1 l2 : Option cf_AV} {st : List cf_AV} {w : cf_Wd} {Q : cf_Rs → Prop} : cf_wp T_P_load (0, [l0, l1, l2], st, w) Q ↔ cf_wp T_P_load (1, [l0, l1, l2], .inl 0 :: st, w) Q := cf_w1 rfl
theorem r_P_load_1 {l0 l1 l2 : Option cf_AV} {x : Int32} {st : List cf_AV} {w : cf_Wd} {Q : cf_Rs → Prop} : cf_wp T_P_load (1, [l0, l1, l2], .inl x :: st, w) Q ↔ cf_wp T_P_load (2, [l0, l1, some (.inl x)], st, w) Q := cf_w1 rfl
theorem r_P_load_2 {l0 l1 : Option cf_AV} {x : Int32} {st : List cf_AV} {w : cf_Wd} {Q : cf_Rs → Prop} : cf_wp T_P_load (2, [l0, l1, some (.inl x)], st, w) Q ↔ cf_wp T_P_load (3, [l0, l1, some (.inl x)], .inl x :: st, w) Q := cf_w1 rfl
theorem r_P_load_3 {l0 l1 l2 : Option cf_AV} {st : List cf_AV} {w : cf_Wd} {Q : cf_Rs → Prop} : cf_wp T_P_load (3, [l0, l1, l2], st, w) Q ↔ cf_wp T_P_load (5, [l0, l1, l2], .inl 8 :: st, w) Q := cf_w1 rfl
theorem r_P_load_5 {l0 l1 l2 : Option cf_AV} {x y : Int32} {st : List cf_AV} {w : cf_Wd} {Q : cf_Rs → Prop} : cf_wp T_P_load (5, [l0, l1, l2], .inl y :: .inl x :: st, w) Q ↔ (if y ≤ x then cf_wp T_P_load (31, [l0, l1, l2], st, w) Q else cf_wp T_P_load (8, [l0, l1, l2], st, w) Q) := cf_wi rfl
theorem r_P_load_8 {l1 l2 : Option cf_AV} {k : Nat} {st : List cf_AV} {w : cf_Wd} {Q : cf_Rs → Prop} : cf_wp T_P_load (8, [some (.inr k), l1, l2], st, w) Q ↔ cf_wp T_P_load (9, [some (.inr k), l1, l2], .inr k :: st, w) Q := cf_w1 rfl
theorem r_P_load_9 {l0 l1 l2 : Option cf_AV} {st : List cf_AV} {w : cf_Wd} {Q : cf_Rs → Prop} : cf_wp T_P_load (9, [l0, l1, l2], .inr 15 :: st, w) Q ↔ cf_wp T_P_load (12, [l0, l1, l2], .inr 22 :: st, w) Q := cf_w1 rfl
theorem r_P_load_12 {l0 l1 : Option cf_AV} {x : Int32} {st : List cf_AV} {w : cf_Wd} {Q : cf_Rs → Prop} : cf_wp T_P_load (12, [l0, l1, some (.inl x)], st, w) Q ↔ cf_wp T_P_load (13, [l0, l1, some (.inl x)], .inl x :: st, w) Q := cf_w1 rfl
theorem r_P_load_13 {l1 l2 : Option cf_AV} {k : Nat} {st : List cf_AV} {w : cf_Wd} {Q : cf_Rs → Prop} : cf_wp T_P_load (13, [some (.inr k), l1, l2], st, w) Q ↔ cf_wp T_P_load (14, [some (.inr k), l1, l2], .inr k :: st, w) Q := cf_w1 rfl
theorem r_P_load_14 {l0 l1 l2 : Option cf_AV} {st : List cf_AV} {w : cf_Wd} {Q : cf_Rs → Prop} : cf_wp T_P_load (14, [l0, l1, l2], .inr 15 :: st, w) Q ↔ cf_wp T_P_load (17, [l0, l1, l2], .inr 18 :: st, w) Q := cf_w1 rfl
theorem r_P_load_17 {l0 l1 l2 : Option cf_AV} {st : List cf_AV} {w : cf_Wd} {Q : cf_Rs → Prop} : cf_wp T_P_load (17, [l0, l1, l2], st, w) Q ↔ cf_wp T_P_load (19, [l0, l1, l2], .inl 8 :: st, w) Q := cf_w1 rfl
theorem r_P_load_19 {l0 l2 : Option cf_AV} {x : Int32} {st : List cf_AV} {w : cf_Wd} {Q : cf_Rs → Prop} : cf_wp T_P_load (19, [l0, some (.inl x), l2], st, w) Q ↔ cf_wp T_P_load (20, [l0, some (.inl x), l2], .inl x :: st, w) Q := cf_w1 rfl
theorem r_P_load_20 {l0 l1 l2 : Option cf_AV} {x y : Int32} {st : List cf_AV} {w : cf_Wd} {Q : cf_Rs → Prop} : cf_wp T_P_load (20, [l0, l1, l2], .inl y :: .inl x :: st, w) Q ↔ cf_wp T_P_load (21, [l0, l1, l2], .inl (x * y) :: st, w) Q := cf_w1 rfl
theorem r_P_load_21 {l0 l1 : Option cf_AV} {x : Int32} {st : List cf_AV} {w : cf_Wd} {Q : cf_Rs → Prop} : cf_wp T_P_load (21, [l0, l1, some (.inl x)], st, w) Q ↔ cf_wp T_P_load (22, [l0, l1, some (.inl x)], .inl x :: st, w) Q := cf_w1 rfl
theorem r_P_load_22 {l0 l1 l2 : Option cf_AV} {x y : Int32} {st : List cf_AV} {w : cf_Wd} {Q : cf_Rs → Prop} : cf_wp T_P_load (22, [l0, l1, l2], .inl y :: .inl x :: st, w) Q ↔ cf_wp T_P_load (23, [l0, l1, l2], .inl (x + y) :: st, w) Q := cf_w1 rfl
theorem r_P_load_23 {l0 l1 l2 : Option cf_AV} {i : Int32} {st : List cf_AV} {w : cf_Wd} {Q : cf_Rs → Prop} : cf_wp T_P_load (23, [l0, l1, l2], .inl i :: .inr 18 :: st, w) Q ↔ (cf_in i 112 = true ∧ cf_wp T_P_load (24, [l0, l1, l2], .inl (w 18 i.toNatClampNeg) :: st, w) Q) := cf_wg rfl
theorem r_P_load_24 {l0 l1 l2 : Option cf_AV} {x i : Int32} {st : List cf_AV} {w : cf_Wd} {Q : cf_Rs → Prop} : cf_wp T_P_load (24, [l0, l1, l2], .inl x :: .inl i :: .inr 22 :: st, w) Q ↔ (cf_in i 8 = true ∧ cf_wp T_P_load (25, [l0, l1, l2], st, (cf_wa w 22 (upd (w 22) i.toNatClampNeg x))) Q) := cf_wg rfl
theorem r_P_load_25 {l0 l1 : Option cf_AV} {x : Int32} {st : List cf_AV} {w : cf_Wd} {Q : cf_Rs → Prop} : cf_wp T_P_load (25, [l0, l1, some (.inl x)], st, w) Q ↔ cf_wp T_P_load (28, [l0, l1, some (.inl (x + 1))], st, w) Q := cf_w1 rfl
theorem r_P_load_28 {l0 l1 l2 : Option cf_AV} {st : List cf_AV} {w : cf_Wd} {Q : cf_Rs → Prop} : cf_wp T_P_load (28, [l0, l1, l2], st, w) Q ↔ cf_wp T_P_load (2, [l0, l1, l2], st, w) Q := cf_w1 rfl
theorem r_P_load_31 {l0 l1 l2 : Option cf_AV} {w : cf_Wd} {P : cf_Wd → Prop} : cf_wp T_P_load (31, [l0, l1, l2], [], w) (cf_qv P) ↔ P w := Iff.trans (cf_wr (q := (none, w)) rfl) Iff.rfl
theorem e_P_load {a1 : Int32} {w : cf_Wd} {P : cf_Wd → Prop} (h : cf_wp T_P_load (0, [some (.inr 15), some (.inl a1), none], [], w) (cf_qv P)) : ∃ w1, F_P_load [.inr 15, .inl a1] w = some (none, w1) ∧ P w1 := cf_ev rfl (Nat.le_of_ble_eq_true rfl) h
noncomputable def T_P_verdict (pc : Nat) : cf_Rw := bif Nat.ble pc 9 then
 (bif Nat.ble pc 2 then
  (bif Nat.ble pc 0 then
   (bif Nat.beq pc 0 then cf_aload 0 1 else cf_stuck)
   else
   (bif Nat.ble pc 1 then
    (bif Nat.beq pc 1 then cf_iload 1 2 else cf_stuck)
    else
    (bif Nat.beq pc 2 then cf_call 2 F_P_isCommit 5 else cf_stuck)))
  else
  (bif Nat.ble pc 5 then
   (bif Nat.beq pc 5 then cf_ifne 10 8 else cf_stuck)
   else
   (bif Nat.ble pc 8 then
    (bif Nat.beq pc 8 then cf_const 0 9 else cf_stuck)
    else
    (bif Nat.beq pc 9 then cf_iret else cf_stuck))))
 else
 (bif Nat.ble pc 12 then
  (bif Nat.ble pc 10 then
   (bif Nat.beq pc 10 then cf_aload 0 11 else cf_stuck)
   else
   (bif Nat.ble pc 11 then
    (bif Nat.beq pc 11 then cf_iload 1 12 else cf_stuck)
    else
    (bif Nat.beq pc 12 then cf_call 2 F_P_load 15 else cf_stuck)))
  else
  (bif Nat.ble pc 16 then
   (bif Nat.ble pc 15 then
    (bif Nat.beq pc 15 then cf_aload 0 16 else cf_stuck)
    else
    (bif Nat.beq pc 16 then cf_iload 2 17 else cf_stuck))
   else
   (bif Nat.ble pc 17 then
    (bif Nat.beq pc 17 then cf_call 2 F_P_run 20 else cf_stuck)
    else
    (bif Nat.beq pc 20 then cf_iret else cf_stuck))))
noncomputable def F_P_verdict : List cf_AV → cf_Wd → Option cf_Rs := cf_F T_P_verdict 3 (some .int) (cf_shV 15 2)
theorem r_P_verdict_0 {l1 l2 : Option cf_AV} {k : Nat} {st : List cf_AV} {w : cf_Wd} {Q : cf_Rs → Prop} : cf_wp T_P_verdict (0, [some (.inr k), l1, l2], st, w) Q ↔ cf_wp T_P_verdict (1, [some (.inr k), l1, l2], .inr k :: st, w) Q := cf_w1 rfl
theorem r_P_verdict_1 {l0 l2 : Option cf_AV} {x : Int32} {st : List cf_AV} {w : cf_Wd} {Q : cf_Rs → Prop} : cf_wp T_P_verdict (1, [l0, some (.inl x), l2], st, w) Q ↔ cf_wp T_P_verdict (2, [l0, some (.inl x), l2], .inl x :: st, w) Q := cf_w1 rfl
theorem r_P_verdict_2 {l0 l1 l2 : Option cf_AV} {a1 : Int32} {w : cf_Wd} {Q : cf_Rs → Prop} : cf_wp T_P_verdict (2, [l0, l1, l2], [.inl a1, .inr 15], w) Q ↔ ∃ x w1, F_P_isCommit [.inr 15, .inl a1] w = some (some (.inl x), w1) ∧ cf_wp T_P_verdict (5, [l0, l1, l2], [.inl x], w1) Q := cf_wci (n := 2) (F := F_P_isCommit) (nx := 5) rfl rfl cf_F_b
theorem c_P_verdict_2 {l0 l1 l2 : Option cf_AV} {a1 : Int32} {x1 : Int32} {w1 : cf_Wd} {w : cf_Wd} {Q : cf_Rs → Prop} (hs : F_P_isCommit [.inr 15, .inl a1] w = some (some (.inl x1), w1)) : cf_wp T_P_verdict (2, [l0, l1, l2], [.inl a1, .inr 15], w) Q ↔ cf_wp T_P_verdict (5, [l0, l1, l2], [.inl x1], w1) Q := r_P_verdict_2.trans (cf_xi hs)
theorem r_P_verdict_5 {l0 l1 l2 : Option cf_AV} {x : Int32} {st : List cf_AV} {w : cf_Wd} {Q : cf_Rs → Prop} : cf_wp T_P_verdict (5, [l0, l1, l2], .inl x :: st, w) Q ↔ (if ¬ x = 0 then cf_wp T_P_verdict (10, [l0, l1, l2], st, w) Q else cf_wp T_P_verdict (8, [l0, l1, l2], st, w) Q) := cf_wi rfl
theorem r_P_verdict_8 {l0 l1 l2 : Option cf_AV} {st : List cf_AV} {w : cf_Wd} {Q : cf_Rs → Prop} : cf_wp T_P_verdict (8, [l0, l1, l2], st, w) Q ↔ cf_wp T_P_verdict (9, [l0, l1, l2], .inl 0 :: st, w) Q := cf_w1 rfl
theorem r_P_verdict_9 {l0 l1 l2 : Option cf_AV} {x : Int32} {w : cf_Wd} {P : Int32 → cf_Wd → Prop} : cf_wp T_P_verdict (9, [l0, l1, l2], [.inl x], w) (cf_qi P) ↔ P x w := Iff.trans (cf_wr (q := (some (.inl x), w)) rfl) Iff.rfl
theorem r_P_verdict_10 {l1 l2 : Option cf_AV} {k : Nat} {st : List cf_AV} {w : cf_Wd} {Q : cf_Rs → Prop} : cf_wp T_P_verdict (10, [some (.inr k), l1, l2], st, w) Q ↔ cf_wp T_P_verdict (11, [some (.inr k), l1, l2], .inr k :: st, w) Q := cf_w1 rfl
theorem r_P_verdict_11 {l0 l2 : Option cf_AV} {x : Int32} {st : List cf_AV} {w : cf_Wd} {Q : cf_Rs → Prop} : cf_wp T_P_verdict (11, [l0, some (.inl x), l2], st, w) Q ↔ cf_wp T_P_verdict (12, [l0, some (.inl x), l2], .inl x :: st, w) Q := cf_w1 rfl
theorem r_P_verdict_12 {l0 l1 l2 : Option cf_AV} {a1 : Int32} {w : cf_Wd} {Q : cf_Rs → Prop} : cf_wp T_P_verdict (12, [l0, l1, l2], [.inl a1, .inr 15], w) Q ↔ ∃ w1, F_P_load [.inr 15, .inl a1] w = some (none, w1) ∧ cf_wp T_P_verdict (15, [l0, l1, l2], [], w1) Q := cf_wcv (n := 2) (F := F_P_load) (nx := 15) rfl rfl cf_F_v
theorem c_P_verdict_12 {l0 l1 l2 : Option cf_AV} {a1 : Int32} {w1 : cf_Wd} {w : cf_Wd} {Q : cf_Rs → Prop} (hs : F_P_load [.inr 15, .inl a1] w = some (none, w1)) : cf_wp T_P_verdict (12, [l0, l1, l2], [.inl a1, .inr 15], w) Q ↔ cf_wp T_P_verdict (15, [l0, l1, l2], [], w1) Q := r_P_verdict_12.trans (cf_xv hs)
theorem r_P_verdict_15 {l1 l2 : Option cf_AV} {k : Nat} {st : List cf_AV} {w : cf_Wd} {Q : cf_Rs → Prop} : cf_wp T_P_verdict (15, [some (.inr k), l1, l2], st, w) Q ↔ cf_wp T_P_verdict (16, [some (.inr k), l1, l2], .inr k :: st, w) Q := cf_w1 rfl
theorem r_P_verdict_16 {l0 l1 : Option cf_AV} {x : Int32} {st : List cf_AV} {w : cf_Wd} {Q : cf_Rs → Prop} : cf_wp T_P_verdict (16, [l0, l1, some (.inl x)], st, w) Q ↔ cf_wp T_P_verdict (17, [l0, l1, some (.inl x)], .inl x :: st, w) Q := cf_w1 rfl
theorem r_P_verdict_17 {l0 l1 l2 : Option cf_AV} {a1 : Int32} {w : cf_Wd} {Q : cf_Rs → Prop} : cf_wp T_P_verdict (17, [l0, l1, l2], [.inl a1, .inr 15], w) Q ↔ ∃ x w1, F_P_run [.inr 15, .inl a1] w = some (some (.inl x), w1) ∧ cf_wp T_P_verdict (20, [l0, l1, l2], [.inl x], w1) Q := cf_wci (n := 2) (F := F_P_run) (nx := 20) rfl rfl cf_F_i
theorem c_P_verdict_17 {l0 l1 l2 : Option cf_AV} {a1 : Int32} {x1 : Int32} {w1 : cf_Wd} {w : cf_Wd} {Q : cf_Rs → Prop} (hs : F_P_run [.inr 15, .inl a1] w = some (some (.inl x1), w1)) : cf_wp T_P_verdict (17, [l0, l1, l2], [.inl a1, .inr 15], w) Q ↔ cf_wp T_P_verdict (20, [l0, l1, l2], [.inl x1], w1) Q := r_P_verdict_17.trans (cf_xi hs)
theorem r_P_verdict_20 {l0 l1 l2 : Option cf_AV} {x : Int32} {w : cf_Wd} {P : Int32 → cf_Wd → Prop} : cf_wp T_P_verdict (20, [l0, l1, l2], [.inl x], w) (cf_qi P) ↔ P x w := Iff.trans (cf_wr (q := (some (.inl x), w)) rfl) Iff.rfl
theorem e_P_verdict {a1 a2 : Int32} {w : cf_Wd} {P : Int32 → cf_Wd → Prop} (h : cf_wp T_P_verdict (0, [some (.inr 15), some (.inl a1), some (.inl a2)], [], w) (cf_qi P)) : ∃ x w1, F_P_verdict [.inr 15, .inl a1, .inl a2] w = some (some (.inl x), w1) ∧ P x w1 := cf_ei rfl (Nat.le_of_ble_eq_true rfl) h
noncomputable def T_P_judge (pc : Nat) : cf_Rw := bif Nat.ble pc 48 then
 (bif Nat.ble pc 23 then
  (bif Nat.ble pc 12 then
   (bif Nat.ble pc 4 then
    (bif Nat.ble pc 0 then
     (bif Nat.beq pc 0 then cf_iload 1 1 else cf_stuck)
     else
     (bif Nat.ble pc 1 then
      (bif Nat.beq pc 1 then cf_const 1000 4 else cf_stuck)
      else
      (bif Nat.beq pc 4 then cf_icge 21 7 else cf_stuck)))
    else
    (bif Nat.ble pc 8 then
     (bif Nat.ble pc 7 then
      (bif Nat.beq pc 7 then cf_aload 0 8 else cf_stuck)
      else
      (bif Nat.beq pc 8 then cf_iload 1 9 else cf_stuck))
     else
     (bif Nat.ble pc 9 then
      (bif Nat.beq pc 9 then cf_call 2 F_P_load 12 else cf_stuck)
      else
      (bif Nat.beq pc 12 then cf_aload 0 13 else cf_stuck))))
   else
   (bif Nat.ble pc 17 then
    (bif Nat.ble pc 13 then
     (bif Nat.beq pc 13 then cf_aload 0 14 else cf_stuck)
     else
     (bif Nat.ble pc 14 then
      (bif Nat.beq pc 14 then cf_get 5 8 17 else cf_stuck)
      else
      (bif Nat.beq pc 17 then cf_call 2 F_P_run 20 else cf_stuck)))
    else
    (bif Nat.ble pc 21 then
     (bif Nat.ble pc 20 then
      (bif Nat.beq pc 20 then cf_iret else cf_stuck)
      else
      (bif Nat.beq pc 21 then cf_aload 0 22 else cf_stuck))
     else
     (bif Nat.ble pc 22 then
      (bif Nat.beq pc 22 then cf_aload 0 23 else cf_stuck)
      else
      (bif Nat.beq pc 23 then cf_get 5 1 26 else cf_stuck)))))
  else
  (bif Nat.ble pc 36 then
   (bif Nat.ble pc 30 then
    (bif Nat.ble pc 26 then
     (bif Nat.beq pc 26 then cf_aload 0 27 else cf_stuck)
     else
     (bif Nat.ble pc 27 then
      (bif Nat.beq pc 27 then cf_get 5 21 30 else cf_stuck)
      else
      (bif Nat.beq pc 30 then cf_iald 31 else cf_stuck)))
    else
    (bif Nat.ble pc 34 then
     (bif Nat.ble pc 31 then
      (bif Nat.beq pc 31 then cf_call 2 F_P_load 34 else cf_stuck)
      else
      (bif Nat.beq pc 34 then cf_const 0 35 else cf_stuck))
     else
     (bif Nat.ble pc 35 then
      (bif Nat.beq pc 35 then cf_istore 2 36 else cf_stuck)
      else
      (bif Nat.beq pc 36 then cf_iload 2 37 else cf_stuck))))
   else
   (bif Nat.ble pc 42 then
    (bif Nat.ble pc 37 then
     (bif Nat.beq pc 37 then cf_const 8 39 else cf_stuck)
     else
     (bif Nat.ble pc 39 then
      (bif Nat.beq pc 39 then cf_icge 90 42 else cf_stuck)
      else
      (bif Nat.beq pc 42 then cf_aload 0 43 else cf_stuck)))
    else
    (bif Nat.ble pc 46 then
     (bif Nat.ble pc 43 then
      (bif Nat.beq pc 43 then cf_get 5 14 46 else cf_stuck)
      else
      (bif Nat.beq pc 46 then cf_iload 2 47 else cf_stuck))
     else
     (bif Nat.ble pc 47 then
      (bif Nat.beq pc 47 then cf_iload 1 48 else cf_stuck)
      else
      (bif Nat.beq pc 48 then cf_const 1000 51 else cf_stuck))))))
 else
 (bif Nat.ble pc 71 then
  (bif Nat.ble pc 57 then
   (bif Nat.ble pc 53 then
    (bif Nat.ble pc 51 then
     (bif Nat.beq pc 51 then cf_bin (fun x y => x - y) 52 else cf_stuck)
     else
     (bif Nat.ble pc 52 then
      (bif Nat.beq pc 52 then cf_iload 2 53 else cf_stuck)
      else
      (bif Nat.beq pc 53 then cf_bin (fun x y => x >>> (y &&& 31)) 54 else cf_stuck)))
    else
    (bif Nat.ble pc 55 then
     (bif Nat.ble pc 54 then
      (bif Nat.beq pc 54 then cf_const 1 55 else cf_stuck)
      else
      (bif Nat.beq pc 55 then cf_bin (fun x y => x &&& y) 56 else cf_stuck))
     else
     (bif Nat.ble pc 56 then
      (bif Nat.beq pc 56 then cf_const 1 57 else cf_stuck)
      else
      (bif Nat.beq pc 57 then cf_icne 77 60 else cf_stuck))))
   else
   (bif Nat.ble pc 64 then
    (bif Nat.ble pc 60 then
     (bif Nat.beq pc 60 then cf_aload 0 61 else cf_stuck)
     else
     (bif Nat.ble pc 61 then
      (bif Nat.beq pc 61 then cf_get 5 3 64 else cf_stuck)
      else
      (bif Nat.beq pc 64 then cf_const 8 66 else cf_stuck)))
    else
    (bif Nat.ble pc 67 then
     (bif Nat.ble pc 66 then
      (bif Nat.beq pc 66 then cf_aload 0 67 else cf_stuck)
      else
      (bif Nat.beq pc 67 then cf_get 5 21 70 else cf_stuck))
     else
     (bif Nat.ble pc 70 then
      (bif Nat.beq pc 70 then cf_bin (fun x y => x * y) 71 else cf_stuck)
      else
      (bif Nat.beq pc 71 then cf_iload 2 72 else cf_stuck)))))
  else
  (bif Nat.ble pc 82 then
   (bif Nat.ble pc 74 then
    (bif Nat.ble pc 72 then
     (bif Nat.beq pc 72 then cf_bin (fun x y => x + y) 73 else cf_stuck)
     else
     (bif Nat.ble pc 73 then
      (bif Nat.beq pc 73 then cf_iald 74 else cf_stuck)
      else
      (bif Nat.beq pc 74 then cf_goto 83 else cf_stuck)))
    else
    (bif Nat.ble pc 78 then
     (bif Nat.ble pc 77 then
      (bif Nat.beq pc 77 then cf_aload 0 78 else cf_stuck)
      else
      (bif Nat.beq pc 78 then cf_get 5 14 81 else cf_stuck))
     else
     (bif Nat.ble pc 81 then
      (bif Nat.beq pc 81 then cf_iload 2 82 else cf_stuck)
      else
      (bif Nat.beq pc 82 then cf_iald 83 else cf_stuck))))
   else
   (bif Nat.ble pc 90 then
    (bif Nat.ble pc 84 then
     (bif Nat.ble pc 83 then
      (bif Nat.beq pc 83 then cf_iast 84 else cf_stuck)
      else
      (bif Nat.beq pc 84 then cf_iinc 2 1 87 else cf_stuck))
     else
     (bif Nat.ble pc 87 then
      (bif Nat.beq pc 87 then cf_goto 36 else cf_stuck)
      else
      (bif Nat.beq pc 90 then cf_aload 0 91 else cf_stuck)))
    else
    (bif Nat.ble pc 92 then
     (bif Nat.ble pc 91 then
      (bif Nat.beq pc 91 then cf_aload 0 92 else cf_stuck)
      else
      (bif Nat.beq pc 92 then cf_get 5 8 95 else cf_stuck))
     else
     (bif Nat.ble pc 95 then
      (bif Nat.beq pc 95 then cf_call 2 F_P_run 98 else cf_stuck)
      else
      (bif Nat.beq pc 98 then cf_iret else cf_stuck))))))
noncomputable def F_P_judge : List cf_AV → cf_Wd → Option cf_Rs := cf_F T_P_judge 3 (some .int) (cf_shV 15 1)
theorem r_P_judge_0 {l0 l2 : Option cf_AV} {x : Int32} {st : List cf_AV} {w : cf_Wd} {Q : cf_Rs → Prop} : cf_wp T_P_judge (0, [l0, some (.inl x), l2], st, w) Q ↔ cf_wp T_P_judge (1, [l0, some (.inl x), l2], .inl x :: st, w) Q := cf_w1 rfl
theorem r_P_judge_1 {l0 l1 l2 : Option cf_AV} {st : List cf_AV} {w : cf_Wd} {Q : cf_Rs → Prop} : cf_wp T_P_judge (1, [l0, l1, l2], st, w) Q ↔ cf_wp T_P_judge (4, [l0, l1, l2], .inl 1000 :: st, w) Q := cf_w1 rfl
theorem r_P_judge_4 {l0 l1 l2 : Option cf_AV} {x y : Int32} {st : List cf_AV} {w : cf_Wd} {Q : cf_Rs → Prop} : cf_wp T_P_judge (4, [l0, l1, l2], .inl y :: .inl x :: st, w) Q ↔ (if y ≤ x then cf_wp T_P_judge (21, [l0, l1, l2], st, w) Q else cf_wp T_P_judge (7, [l0, l1, l2], st, w) Q) := cf_wi rfl
theorem r_P_judge_7 {l1 l2 : Option cf_AV} {k : Nat} {st : List cf_AV} {w : cf_Wd} {Q : cf_Rs → Prop} : cf_wp T_P_judge (7, [some (.inr k), l1, l2], st, w) Q ↔ cf_wp T_P_judge (8, [some (.inr k), l1, l2], .inr k :: st, w) Q := cf_w1 rfl
theorem r_P_judge_8 {l0 l2 : Option cf_AV} {x : Int32} {st : List cf_AV} {w : cf_Wd} {Q : cf_Rs → Prop} : cf_wp T_P_judge (8, [l0, some (.inl x), l2], st, w) Q ↔ cf_wp T_P_judge (9, [l0, some (.inl x), l2], .inl x :: st, w) Q := cf_w1 rfl
theorem r_P_judge_9 {l0 l1 l2 : Option cf_AV} {a1 : Int32} {w : cf_Wd} {Q : cf_Rs → Prop} : cf_wp T_P_judge (9, [l0, l1, l2], [.inl a1, .inr 15], w) Q ↔ ∃ w1, F_P_load [.inr 15, .inl a1] w = some (none, w1) ∧ cf_wp T_P_judge (12, [l0, l1, l2], [], w1) Q := cf_wcv (n := 2) (F := F_P_load) (nx := 12) rfl rfl cf_F_v
theorem c_P_judge_9 {l0 l1 l2 : Option cf_AV} {a1 : Int32} {w1 : cf_Wd} {w : cf_Wd} {Q : cf_Rs → Prop} (hs : F_P_load [.inr 15, .inl a1] w = some (none, w1)) : cf_wp T_P_judge (9, [l0, l1, l2], [.inl a1, .inr 15], w) Q ↔ cf_wp T_P_judge (12, [l0, l1, l2], [], w1) Q := r_P_judge_9.trans (cf_xv hs)
theorem r_P_judge_12 {l1 l2 : Option cf_AV} {k : Nat} {st : List cf_AV} {w : cf_Wd} {Q : cf_Rs → Prop} : cf_wp T_P_judge (12, [some (.inr k), l1, l2], st, w) Q ↔ cf_wp T_P_judge (13, [some (.inr k), l1, l2], .inr k :: st, w) Q := cf_w1 rfl
theorem r_P_judge_13 {l1 l2 : Option cf_AV} {k : Nat} {st : List cf_AV} {w : cf_Wd} {Q : cf_Rs → Prop} : cf_wp T_P_judge (13, [some (.inr k), l1, l2], st, w) Q ↔ cf_wp T_P_judge (14, [some (.inr k), l1, l2], .inr k :: st, w) Q := cf_w1 rfl
theorem r_P_judge_14 {l0 l1 l2 : Option cf_AV} {st : List cf_AV} {w : cf_Wd} {Q : cf_Rs → Prop} : cf_wp T_P_judge (14, [l0, l1, l2], .inr 15 :: st, w) Q ↔ cf_wp T_P_judge (17, [l0, l1, l2], .inl (w 15 8) :: st, w) Q := cf_w1 rfl
theorem r_P_judge_17 {l0 l1 l2 : Option cf_AV} {a1 : Int32} {w : cf_Wd} {Q : cf_Rs → Prop} : cf_wp T_P_judge (17, [l0, l1, l2], [.inl a1, .inr 15], w) Q ↔ ∃ x w1, F_P_run [.inr 15, .inl a1] w = some (some (.inl x), w1) ∧ cf_wp T_P_judge (20, [l0, l1, l2], [.inl x], w1) Q := cf_wci (n := 2) (F := F_P_run) (nx := 20) rfl rfl cf_F_i
theorem c_P_judge_17 {l0 l1 l2 : Option cf_AV} {a1 : Int32} {x1 : Int32} {w1 : cf_Wd} {w : cf_Wd} {Q : cf_Rs → Prop} (hs : F_P_run [.inr 15, .inl a1] w = some (some (.inl x1), w1)) : cf_wp T_P_judge (17, [l0, l1, l2], [.inl a1, .inr 15], w) Q ↔ cf_wp T_P_judge (20, [l0, l1, l2], [.inl x1], w1) Q := r_P_judge_17.trans (cf_xi hs)
theorem r_P_judge_20 {l0 l1 l2 : Option cf_AV} {x : Int32} {w : cf_Wd} {P : Int32 → cf_Wd → Prop} : cf_wp T_P_judge (20, [l0, l1, l2], [.inl x], w) (cf_qi P) ↔ P x w := Iff.trans (cf_wr (q := (some (.inl x), w)) rfl) Iff.rfl
theorem r_P_judge_21 {l1 l2 : Option cf_AV} {k : Nat} {st : List cf_AV} {w : cf_Wd} {Q : cf_Rs → Prop} : cf_wp T_P_judge (21, [some (.inr k), l1, l2], st, w) Q ↔ cf_wp T_P_judge (22, [some (.inr k), l1, l2], .inr k :: st, w) Q := cf_w1 rfl
theorem r_P_judge_22 {l1 l2 : Option cf_AV} {k : Nat} {st : List cf_AV} {w : cf_Wd} {Q : cf_Rs → Prop} : cf_wp T_P_judge (22, [some (.inr k), l1, l2], st, w) Q ↔ cf_wp T_P_judge (23, [some (.inr k), l1, l2], .inr k :: st, w) Q := cf_w1 rfl
theorem r_P_judge_23 {l0 l1 l2 : Option cf_AV} {st : List cf_AV} {w : cf_Wd} {Q : cf_Rs → Prop} : cf_wp T_P_judge (23, [l0, l1, l2], .inr 15 :: st, w) Q ↔ cf_wp T_P_judge (26, [l0, l1, l2], .inr 16 :: st, w) Q := cf_w1 rfl
theorem r_P_judge_26 {l1 l2 : Option cf_AV} {k : Nat} {st : List cf_AV} {w : cf_Wd} {Q : cf_Rs → Prop} : cf_wp T_P_judge (26, [some (.inr k), l1, l2], st, w) Q ↔ cf_wp T_P_judge (27, [some (.inr k), l1, l2], .inr k :: st, w) Q := cf_w1 rfl
theorem r_P_judge_27 {l0 l1 l2 : Option cf_AV} {st : List cf_AV} {w : cf_Wd} {Q : cf_Rs → Prop} : cf_wp T_P_judge (27, [l0, l1, l2], .inr 15 :: st, w) Q ↔ cf_wp T_P_judge (30, [l0, l1, l2], .inl (w 15 21) :: st, w) Q := cf_w1 rfl
theorem r_P_judge_30 {l0 l1 l2 : Option cf_AV} {i : Int32} {st : List cf_AV} {w : cf_Wd} {Q : cf_Rs → Prop} : cf_wp T_P_judge (30, [l0, l1, l2], .inl i :: .inr 16 :: st, w) Q ↔ (cf_in i 14 = true ∧ cf_wp T_P_judge (31, [l0, l1, l2], .inl (w 16 i.toNatClampNeg) :: st, w) Q) := cf_wg rfl
theorem r_P_judge_31 {l0 l1 l2 : Option cf_AV} {a1 : Int32} {w : cf_Wd} {Q : cf_Rs → Prop} : cf_wp T_P_judge (31, [l0, l1, l2], [.inl a1, .inr 15], w) Q ↔ ∃ w1, F_P_load [.inr 15, .inl a1] w = some (none, w1) ∧ cf_wp T_P_judge (34, [l0, l1, l2], [], w1) Q := cf_wcv (n := 2) (F := F_P_load) (nx := 34) rfl rfl cf_F_v
theorem c_P_judge_31 {l0 l1 l2 : Option cf_AV} {a1 : Int32} {w1 : cf_Wd} {w : cf_Wd} {Q : cf_Rs → Prop} (hs : F_P_load [.inr 15, .inl a1] w = some (none, w1)) : cf_wp T_P_judge (31, [l0, l1, l2], [.inl a1, .inr 15], w) Q ↔ cf_wp T_P_judge (34, [l0, l1, l2], [], w1) Q := r_P_judge_31.trans (cf_xv hs)
theorem r_P_judge_34 {l0 l1 l2 : Option cf_AV} {st : List cf_AV} {w : cf_Wd} {Q : cf_Rs → Prop} : cf_wp T_P_judge (34, [l0, l1, l2], st, w) Q ↔ cf_wp T_P_judge (35, [l0, l1, l2], .inl 0 :: st, w) Q := cf_w1 rfl
theorem r_P_judge_35 {l0 l1 l2 : Option cf_AV} {x : Int32} {st : List cf_AV} {w : cf_Wd} {Q : cf_Rs → Prop} : cf_wp T_P_judge (35, [l0, l1, l2], .inl x :: st, w) Q ↔ cf_wp T_P_judge (36, [l0, l1, some (.inl x)], st, w) Q := cf_w1 rfl
theorem r_P_judge_36 {l0 l1 : Option cf_AV} {x : Int32} {st : List cf_AV} {w : cf_Wd} {Q : cf_Rs → Prop} : cf_wp T_P_judge (36, [l0, l1, some (.inl x)], st, w) Q ↔ cf_wp T_P_judge (37, [l0, l1, some (.inl x)], .inl x :: st, w) Q := cf_w1 rfl
theorem r_P_judge_37 {l0 l1 l2 : Option cf_AV} {st : List cf_AV} {w : cf_Wd} {Q : cf_Rs → Prop} : cf_wp T_P_judge (37, [l0, l1, l2], st, w) Q ↔ cf_wp T_P_judge (39, [l0, l1, l2], .inl 8 :: st, w) Q := cf_w1 rfl
theorem r_P_judge_39 {l0 l1 l2 : Option cf_AV} {x y : Int32} {st : List cf_AV} {w : cf_Wd} {Q : cf_Rs → Prop} : cf_wp T_P_judge (39, [l0, l1, l2], .inl y :: .inl x :: st, w) Q ↔ (if y ≤ x then cf_wp T_P_judge (90, [l0, l1, l2], st, w) Q else cf_wp T_P_judge (42, [l0, l1, l2], st, w) Q) := cf_wi rfl
theorem r_P_judge_42 {l1 l2 : Option cf_AV} {k : Nat} {st : List cf_AV} {w : cf_Wd} {Q : cf_Rs → Prop} : cf_wp T_P_judge (42, [some (.inr k), l1, l2], st, w) Q ↔ cf_wp T_P_judge (43, [some (.inr k), l1, l2], .inr k :: st, w) Q := cf_w1 rfl
theorem r_P_judge_43 {l0 l1 l2 : Option cf_AV} {st : List cf_AV} {w : cf_Wd} {Q : cf_Rs → Prop} : cf_wp T_P_judge (43, [l0, l1, l2], .inr 15 :: st, w) Q ↔ cf_wp T_P_judge (46, [l0, l1, l2], .inr 22 :: st, w) Q := cf_w1 rfl
theorem r_P_judge_46 {l0 l1 : Option cf_AV} {x : Int32} {st : List cf_AV} {w : cf_Wd} {Q : cf_Rs → Prop} : cf_wp T_P_judge (46, [l0, l1, some (.inl x)], st, w) Q ↔ cf_wp T_P_judge (47, [l0, l1, some (.inl x)], .inl x :: st, w) Q := cf_w1 rfl
theorem r_P_judge_47 {l0 l2 : Option cf_AV} {x : Int32} {st : List cf_AV} {w : cf_Wd} {Q : cf_Rs → Prop} : cf_wp T_P_judge (47, [l0, some (.inl x), l2], st, w) Q ↔ cf_wp T_P_judge (48, [l0, some (.inl x), l2], .inl x :: st, w) Q := cf_w1 rfl
theorem r_P_judge_48 {l0 l1 l2 : Option cf_AV} {st : List cf_AV} {w : cf_Wd} {Q : cf_Rs → Prop} : cf_wp T_P_judge (48, [l0, l1, l2], st, w) Q ↔ cf_wp T_P_judge (51, [l0, l1, l2], .inl 1000 :: st, w) Q := cf_w1 rfl
theorem r_P_judge_51 {l0 l1 l2 : Option cf_AV} {x y : Int32} {st : List cf_AV} {w : cf_Wd} {Q : cf_Rs → Prop} : cf_wp T_P_judge (51, [l0, l1, l2], .inl y :: .inl x :: st, w) Q ↔ cf_wp T_P_judge (52, [l0, l1, l2], .inl (x - y) :: st, w) Q := cf_w1 rfl
theorem r_P_judge_52 {l0 l1 : Option cf_AV} {x : Int32} {st : List cf_AV} {w : cf_Wd} {Q : cf_Rs → Prop} : cf_wp T_P_judge (52, [l0, l1, some (.inl x)], st, w) Q ↔ cf_wp T_P_judge (53, [l0, l1, some (.inl x)], .inl x :: st, w) Q := cf_w1 rfl
theorem r_P_judge_53 {l0 l1 l2 : Option cf_AV} {x y : Int32} {st : List cf_AV} {w : cf_Wd} {Q : cf_Rs → Prop} : cf_wp T_P_judge (53, [l0, l1, l2], .inl y :: .inl x :: st, w) Q ↔ cf_wp T_P_judge (54, [l0, l1, l2], .inl (x >>> (y &&& 31)) :: st, w) Q := cf_w1 rfl
theorem r_P_judge_54 {l0 l1 l2 : Option cf_AV} {st : List cf_AV} {w : cf_Wd} {Q : cf_Rs → Prop} : cf_wp T_P_judge (54, [l0, l1, l2], st, w) Q ↔ cf_wp T_P_judge (55, [l0, l1, l2], .inl 1 :: st, w) Q := cf_w1 rfl
theorem r_P_judge_55 {l0 l1 l2 : Option cf_AV} {x y : Int32} {st : List cf_AV} {w : cf_Wd} {Q : cf_Rs → Prop} : cf_wp T_P_judge (55, [l0, l1, l2], .inl y :: .inl x :: st, w) Q ↔ cf_wp T_P_judge (56, [l0, l1, l2], .inl (x &&& y) :: st, w) Q := cf_w1 rfl
theorem r_P_judge_56 {l0 l1 l2 : Option cf_AV} {st : List cf_AV} {w : cf_Wd} {Q : cf_Rs → Prop} : cf_wp T_P_judge (56, [l0, l1, l2], st, w) Q ↔ cf_wp T_P_judge (57, [l0, l1, l2], .inl 1 :: st, w) Q := cf_w1 rfl
theorem r_P_judge_57 {l0 l1 l2 : Option cf_AV} {x y : Int32} {st : List cf_AV} {w : cf_Wd} {Q : cf_Rs → Prop} : cf_wp T_P_judge (57, [l0, l1, l2], .inl y :: .inl x :: st, w) Q ↔ (if ¬ x = y then cf_wp T_P_judge (77, [l0, l1, l2], st, w) Q else cf_wp T_P_judge (60, [l0, l1, l2], st, w) Q) := cf_wi rfl
theorem r_P_judge_60 {l1 l2 : Option cf_AV} {k : Nat} {st : List cf_AV} {w : cf_Wd} {Q : cf_Rs → Prop} : cf_wp T_P_judge (60, [some (.inr k), l1, l2], st, w) Q ↔ cf_wp T_P_judge (61, [some (.inr k), l1, l2], .inr k :: st, w) Q := cf_w1 rfl
theorem r_P_judge_61 {l0 l1 l2 : Option cf_AV} {st : List cf_AV} {w : cf_Wd} {Q : cf_Rs → Prop} : cf_wp T_P_judge (61, [l0, l1, l2], .inr 15 :: st, w) Q ↔ cf_wp T_P_judge (64, [l0, l1, l2], .inr 18 :: st, w) Q := cf_w1 rfl
theorem r_P_judge_64 {l0 l1 l2 : Option cf_AV} {st : List cf_AV} {w : cf_Wd} {Q : cf_Rs → Prop} : cf_wp T_P_judge (64, [l0, l1, l2], st, w) Q ↔ cf_wp T_P_judge (66, [l0, l1, l2], .inl 8 :: st, w) Q := cf_w1 rfl
theorem r_P_judge_66 {l1 l2 : Option cf_AV} {k : Nat} {st : List cf_AV} {w : cf_Wd} {Q : cf_Rs → Prop} : cf_wp T_P_judge (66, [some (.inr k), l1, l2], st, w) Q ↔ cf_wp T_P_judge (67, [some (.inr k), l1, l2], .inr k :: st, w) Q := cf_w1 rfl
theorem r_P_judge_67 {l0 l1 l2 : Option cf_AV} {st : List cf_AV} {w : cf_Wd} {Q : cf_Rs → Prop} : cf_wp T_P_judge (67, [l0, l1, l2], .inr 15 :: st, w) Q ↔ cf_wp T_P_judge (70, [l0, l1, l2], .inl (w 15 21) :: st, w) Q := cf_w1 rfl
theorem r_P_judge_70 {l0 l1 l2 : Option cf_AV} {x y : Int32} {st : List cf_AV} {w : cf_Wd} {Q : cf_Rs → Prop} : cf_wp T_P_judge (70, [l0, l1, l2], .inl y :: .inl x :: st, w) Q ↔ cf_wp T_P_judge (71, [l0, l1, l2], .inl (x * y) :: st, w) Q := cf_w1 rfl
theorem r_P_judge_71 {l0 l1 : Option cf_AV} {x : Int32} {st : List cf_AV} {w : cf_Wd} {Q : cf_Rs → Prop} : cf_wp T_P_judge (71, [l0, l1, some (.inl x)], st, w) Q ↔ cf_wp T_P_judge (72, [l0, l1, some (.inl x)], .inl x :: st, w) Q := cf_w1 rfl
theorem r_P_judge_72 {l0 l1 l2 : Option cf_AV} {x y : Int32} {st : List cf_AV} {w : cf_Wd} {Q : cf_Rs → Prop} : cf_wp T_P_judge (72, [l0, l1, l2], .inl y :: .inl x :: st, w) Q ↔ cf_wp T_P_judge (73, [l0, l1, l2], .inl (x + y) :: st, w) Q := cf_w1 rfl
theorem r_P_judge_73 {l0 l1 l2 : Option cf_AV} {i : Int32} {st : List cf_AV} {w : cf_Wd} {Q : cf_Rs → Prop} : cf_wp T_P_judge (73, [l0, l1, l2], .inl i :: .inr 18 :: st, w) Q ↔ (cf_in i 112 = true ∧ cf_wp T_P_judge (74, [l0, l1, l2], .inl (w 18 i.toNatClampNeg) :: st, w) Q) := cf_wg rfl
theorem r_P_judge_74 {l0 l1 l2 : Option cf_AV} {st : List cf_AV} {w : cf_Wd} {Q : cf_Rs → Prop} : cf_wp T_P_judge (74, [l0, l1, l2], st, w) Q ↔ cf_wp T_P_judge (83, [l0, l1, l2], st, w) Q := cf_w1 rfl
theorem r_P_judge_77 {l1 l2 : Option cf_AV} {k : Nat} {st : List cf_AV} {w : cf_Wd} {Q : cf_Rs → Prop} : cf_wp T_P_judge (77, [some (.inr k), l1, l2], st, w) Q ↔ cf_wp T_P_judge (78, [some (.inr k), l1, l2], .inr k :: st, w) Q := cf_w1 rfl
theorem r_P_judge_78 {l0 l1 l2 : Option cf_AV} {st : List cf_AV} {w : cf_Wd} {Q : cf_Rs → Prop} : cf_wp T_P_judge (78, [l0, l1, l2], .inr 15 :: st, w) Q ↔ cf_wp T_P_judge (81, [l0, l1, l2], .inr 22 :: st, w) Q := cf_w1 rfl
theorem r_P_judge_81 {l0 l1 : Option cf_AV} {x : Int32} {st : List cf_AV} {w : cf_Wd} {Q : cf_Rs → Prop} : cf_wp T_P_judge (81, [l0, l1, some (.inl x)], st, w) Q ↔ cf_wp T_P_judge (82, [l0, l1, some (.inl x)], .inl x :: st, w) Q := cf_w1 rfl
theorem r_P_judge_82 {l0 l1 l2 : Option cf_AV} {i : Int32} {st : List cf_AV} {w : cf_Wd} {Q : cf_Rs → Prop} : cf_wp T_P_judge (82, [l0, l1, l2], .inl i :: .inr 22 :: st, w) Q ↔ (cf_in i 8 = true ∧ cf_wp T_P_judge (83, [l0, l1, l2], .inl (w 22 i.toNatClampNeg) :: st, w) Q) := cf_wg rfl
theorem r_P_judge_83 {l0 l1 l2 : Option cf_AV} {x i : Int32} {st : List cf_AV} {w : cf_Wd} {Q : cf_Rs → Prop} : cf_wp T_P_judge (83, [l0, l1, l2], .inl x :: .inl i :: .inr 22 :: st, w) Q ↔ (cf_in i 8 = true ∧ cf_wp T_P_judge (84, [l0, l1, l2], st, (cf_wa w 22 (upd (w 22) i.toNatClampNeg x))) Q) := cf_wg rfl
theorem r_P_judge_84 {l0 l1 : Option cf_AV} {x : Int32} {st : List cf_AV} {w : cf_Wd} {Q : cf_Rs → Prop} : cf_wp T_P_judge (84, [l0, l1, some (.inl x)], st, w) Q ↔ cf_wp T_P_judge (87, [l0, l1, some (.inl (x + 1))], st, w) Q := cf_w1 rfl
theorem r_P_judge_87 {l0 l1 l2 : Option cf_AV} {st : List cf_AV} {w : cf_Wd} {Q : cf_Rs → Prop} : cf_wp T_P_judge (87, [l0, l1, l2], st, w) Q ↔ cf_wp T_P_judge (36, [l0, l1, l2], st, w) Q := cf_w1 rfl
theorem r_P_judge_90 {l1 l2 : Option cf_AV} {k : Nat} {st : List cf_AV} {w : cf_Wd} {Q : cf_Rs → Prop} : cf_wp T_P_judge (90, [some (.inr k), l1, l2], st, w) Q ↔ cf_wp T_P_judge (91, [some (.inr k), l1, l2], .inr k :: st, w) Q := cf_w1 rfl
theorem r_P_judge_91 {l1 l2 : Option cf_AV} {k : Nat} {st : List cf_AV} {w : cf_Wd} {Q : cf_Rs → Prop} : cf_wp T_P_judge (91, [some (.inr k), l1, l2], st, w) Q ↔ cf_wp T_P_judge (92, [some (.inr k), l1, l2], .inr k :: st, w) Q := cf_w1 rfl
theorem r_P_judge_92 {l0 l1 l2 : Option cf_AV} {st : List cf_AV} {w : cf_Wd} {Q : cf_Rs → Prop} : cf_wp T_P_judge (92, [l0, l1, l2], .inr 15 :: st, w) Q ↔ cf_wp T_P_judge (95, [l0, l1, l2], .inl (w 15 8) :: st, w) Q := cf_w1 rfl
theorem r_P_judge_95 {l0 l1 l2 : Option cf_AV} {a1 : Int32} {w : cf_Wd} {Q : cf_Rs → Prop} : cf_wp T_P_judge (95, [l0, l1, l2], [.inl a1, .inr 15], w) Q ↔ ∃ x w1, F_P_run [.inr 15, .inl a1] w = some (some (.inl x), w1) ∧ cf_wp T_P_judge (98, [l0, l1, l2], [.inl x], w1) Q := cf_wci (n := 2) (F := F_P_run) (nx := 98) rfl rfl cf_F_i
theorem c_P_judge_95 {l0 l1 l2 : Option cf_AV} {a1 : Int32} {x1 : Int32} {w1 : cf_Wd} {w : cf_Wd} {Q : cf_Rs → Prop} (hs : F_P_run [.inr 15, .inl a1] w = some (some (.inl x1), w1)) : cf_wp T_P_judge (95, [l0, l1, l2], [.inl a1, .inr 15], w) Q ↔ cf_wp T_P_judge (98, [l0, l1, l2], [.inl x1], w1) Q := r_P_judge_95.trans (cf_xi hs)
theorem r_P_judge_98 {l0 l1 l2 : Option cf_AV} {x : Int32} {w : cf_Wd} {P : Int32 → cf_Wd → Prop} : cf_wp T_P_judge (98, [l0, l1, l2], [.inl x], w) (cf_qi P) ↔ P x w := Iff.trans (cf_wr (q := (some (.inl x), w)) rfl) Iff.rfl
theorem e_P_judge {a1 : Int32} {w : cf_Wd} {P : Int32 → cf_Wd → Prop} (h : cf_wp T_P_judge (0, [some (.inr 15), some (.inl a1), none], [], w) (cf_qi P)) : ∃ x w1, F_P_judge [.inr 15, .inl a1] w = some (some (.inl x), w1) ∧ P x w1 := cf_ei rfl (Nat.le_of_ble_eq_true rfl) h
noncomputable def T_P_begin (pc : Nat) : cf_Rw := bif Nat.ble pc 34 then
 (bif Nat.ble pc 17 then
  (bif Nat.ble pc 8 then
   (bif Nat.ble pc 1 then
    (bif Nat.ble pc 0 then
     (bif Nat.beq pc 0 then cf_aload 0 1 else cf_stuck)
     else
     (bif Nat.beq pc 1 then cf_iload 1 2 else cf_stuck))
    else
    (bif Nat.ble pc 2 then
     (bif Nat.beq pc 2 then cf_call 2 F_P_isCommit 5 else cf_stuck)
     else
     (bif Nat.ble pc 5 then
      (bif Nat.beq pc 5 then cf_ifeq 34 8 else cf_stuck)
      else
      (bif Nat.beq pc 8 then cf_aload 0 9 else cf_stuck))))
   else
   (bif Nat.ble pc 10 then
    (bif Nat.ble pc 9 then
     (bif Nat.beq pc 9 then cf_iload 2 10 else cf_stuck)
     else
     (bif Nat.beq pc 10 then cf_call 2 F_P_isCommit 13 else cf_stuck))
    else
    (bif Nat.ble pc 13 then
     (bif Nat.beq pc 13 then cf_ifeq 34 16 else cf_stuck)
     else
     (bif Nat.ble pc 16 then
      (bif Nat.beq pc 16 then cf_iload 1 17 else cf_stuck)
      else
      (bif Nat.beq pc 17 then cf_iload 2 18 else cf_stuck)))))
  else
  (bif Nat.ble pc 26 then
   (bif Nat.ble pc 21 then
    (bif Nat.ble pc 18 then
     (bif Nat.beq pc 18 then cf_iceq 34 21 else cf_stuck)
     else
     (bif Nat.beq pc 21 then cf_aload 0 22 else cf_stuck))
    else
    (bif Nat.ble pc 22 then
     (bif Nat.beq pc 22 then cf_get 5 4 25 else cf_stuck)
     else
     (bif Nat.ble pc 25 then
      (bif Nat.beq pc 25 then cf_iload 2 26 else cf_stuck)
      else
      (bif Nat.beq pc 26 then cf_iald 27 else cf_stuck))))
   else
   (bif Nat.ble pc 29 then
    (bif Nat.ble pc 27 then
     (bif Nat.beq pc 27 then cf_iload 1 28 else cf_stuck)
     else
     (bif Nat.ble pc 28 then
      (bif Nat.beq pc 28 then cf_bin (fun x y => x >>> (y &&& 31)) 29 else cf_stuck)
      else
      (bif Nat.beq pc 29 then cf_const 1 30 else cf_stuck)))
    else
    (bif Nat.ble pc 30 then
     (bif Nat.beq pc 30 then cf_bin (fun x y => x &&& y) 31 else cf_stuck)
     else
     (bif Nat.ble pc 31 then
      (bif Nat.beq pc 31 then cf_ifne 36 34 else cf_stuck)
      else
      (bif Nat.beq pc 34 then cf_const 0 35 else cf_stuck))))))
 else
 (bif Nat.ble pc 48 then
  (bif Nat.ble pc 41 then
   (bif Nat.ble pc 36 then
    (bif Nat.ble pc 35 then
     (bif Nat.beq pc 35 then cf_iret else cf_stuck)
     else
     (bif Nat.beq pc 36 then cf_aload 0 37 else cf_stuck))
    else
    (bif Nat.ble pc 37 then
     (bif Nat.beq pc 37 then cf_const 1 38 else cf_stuck)
     else
     (bif Nat.ble pc 38 then
      (bif Nat.beq pc 38 then cf_putz 5 5 41 else cf_stuck)
      else
      (bif Nat.beq pc 41 then cf_aload 0 42 else cf_stuck))))
   else
   (bif Nat.ble pc 43 then
    (bif Nat.ble pc 42 then
     (bif Nat.beq pc 42 then cf_iload 1 43 else cf_stuck)
     else
     (bif Nat.beq pc 43 then cf_put 5 6 46 else cf_stuck))
    else
    (bif Nat.ble pc 46 then
     (bif Nat.beq pc 46 then cf_aload 0 47 else cf_stuck)
     else
     (bif Nat.ble pc 47 then
      (bif Nat.beq pc 47 then cf_iload 2 48 else cf_stuck)
      else
      (bif Nat.beq pc 48 then cf_put 5 7 51 else cf_stuck)))))
  else
  (bif Nat.ble pc 57 then
   (bif Nat.ble pc 52 then
    (bif Nat.ble pc 51 then
     (bif Nat.beq pc 51 then cf_aload 0 52 else cf_stuck)
     else
     (bif Nat.beq pc 52 then cf_iload 3 53 else cf_stuck))
    else
    (bif Nat.ble pc 53 then
     (bif Nat.beq pc 53 then cf_put 5 8 56 else cf_stuck)
     else
     (bif Nat.ble pc 56 then
      (bif Nat.beq pc 56 then cf_aload 0 57 else cf_stuck)
      else
      (bif Nat.beq pc 57 then cf_const 0 58 else cf_stuck))))
   else
   (bif Nat.ble pc 62 then
    (bif Nat.ble pc 58 then
     (bif Nat.beq pc 58 then cf_putz 5 9 61 else cf_stuck)
     else
     (bif Nat.ble pc 61 then
      (bif Nat.beq pc 61 then cf_aload 0 62 else cf_stuck)
      else
      (bif Nat.beq pc 62 then cf_const 0 63 else cf_stuck)))
    else
    (bif Nat.ble pc 63 then
     (bif Nat.beq pc 63 then cf_put 5 11 66 else cf_stuck)
     else
     (bif Nat.ble pc 66 then
      (bif Nat.beq pc 66 then cf_const 1 67 else cf_stuck)
      else
      (bif Nat.beq pc 67 then cf_iret else cf_stuck))))))
noncomputable def F_P_begin : List cf_AV → cf_Wd → Option cf_Rs := cf_F T_P_begin 4 (some .boolean) (cf_shV 15 3)
theorem r_P_begin_0 {l1 l2 l3 : Option cf_AV} {k : Nat} {st : List cf_AV} {w : cf_Wd} {Q : cf_Rs → Prop} : cf_wp T_P_begin (0, [some (.inr k), l1, l2, l3], st, w) Q ↔ cf_wp T_P_begin (1, [some (.inr k), l1, l2, l3], .inr k :: st, w) Q := cf_w1 rfl
theorem r_P_begin_1 {l0 l2 l3 : Option cf_AV} {x : Int32} {st : List cf_AV} {w : cf_Wd} {Q : cf_Rs → Prop} : cf_wp T_P_begin (1, [l0, some (.inl x), l2, l3], st, w) Q ↔ cf_wp T_P_begin (2, [l0, some (.inl x), l2, l3], .inl x :: st, w) Q := cf_w1 rfl
theorem r_P_begin_2 {l0 l1 l2 l3 : Option cf_AV} {a1 : Int32} {w : cf_Wd} {Q : cf_Rs → Prop} : cf_wp T_P_begin (2, [l0, l1, l2, l3], [.inl a1, .inr 15], w) Q ↔ ∃ x w1, F_P_isCommit [.inr 15, .inl a1] w = some (some (.inl x), w1) ∧ cf_wp T_P_begin (5, [l0, l1, l2, l3], [.inl x], w1) Q := cf_wci (n := 2) (F := F_P_isCommit) (nx := 5) rfl rfl cf_F_b
theorem c_P_begin_2 {l0 l1 l2 l3 : Option cf_AV} {a1 : Int32} {x1 : Int32} {w1 : cf_Wd} {w : cf_Wd} {Q : cf_Rs → Prop} (hs : F_P_isCommit [.inr 15, .inl a1] w = some (some (.inl x1), w1)) : cf_wp T_P_begin (2, [l0, l1, l2, l3], [.inl a1, .inr 15], w) Q ↔ cf_wp T_P_begin (5, [l0, l1, l2, l3], [.inl x1], w1) Q := r_P_begin_2.trans (cf_xi hs)
theorem r_P_begin_5 {l0 l1 l2 l3 : Option cf_AV} {x : Int32} {st : List cf_AV} {w : cf_Wd} {Q : cf_Rs → Prop} : cf_wp T_P_begin (5, [l0, l1, l2, l3], .inl x :: st, w) Q ↔ (if x = 0 then cf_wp T_P_begin (34, [l0, l1, l2, l3], st, w) Q else cf_wp T_P_begin (8, [l0, l1, l2, l3], st, w) Q) := cf_wi rfl
theorem r_P_begin_8 {l1 l2 l3 : Option cf_AV} {k : Nat} {st : List cf_AV} {w : cf_Wd} {Q : cf_Rs → Prop} : cf_wp T_P_begin (8, [some (.inr k), l1, l2, l3], st, w) Q ↔ cf_wp T_P_begin (9, [some (.inr k), l1, l2, l3], .inr k :: st, w) Q := cf_w1 rfl
theorem r_P_begin_9 {l0 l1 l3 : Option cf_AV} {x : Int32} {st : List cf_AV} {w : cf_Wd} {Q : cf_Rs → Prop} : cf_wp T_P_begin (9, [l0, l1, some (.inl x), l3], st, w) Q ↔ cf_wp T_P_begin (10, [l0, l1, some (.inl x), l3], .inl x :: st, w) Q := cf_w1 rfl
theorem r_P_begin_10 {l0 l1 l2 l3 : Option cf_AV} {a1 : Int32} {w : cf_Wd} {Q : cf_Rs → Prop} : cf_wp T_P_begin (10, [l0, l1, l2, l3], [.inl a1, .inr 15], w) Q ↔ ∃ x w1, F_P_isCommit [.inr 15, .inl a1] w = some (some (.inl x), w1) ∧ cf_wp T_P_begin (13, [l0, l1, l2, l3], [.inl x], w1) Q := cf_wci (n := 2) (F := F_P_isCommit) (nx := 13) rfl rfl cf_F_b
theorem c_P_begin_10 {l0 l1 l2 l3 : Option cf_AV} {a1 : Int32} {x1 : Int32} {w1 : cf_Wd} {w : cf_Wd} {Q : cf_Rs → Prop} (hs : F_P_isCommit [.inr 15, .inl a1] w = some (some (.inl x1), w1)) : cf_wp T_P_begin (10, [l0, l1, l2, l3], [.inl a1, .inr 15], w) Q ↔ cf_wp T_P_begin (13, [l0, l1, l2, l3], [.inl x1], w1) Q := r_P_begin_10.trans (cf_xi hs)
theorem r_P_begin_13 {l0 l1 l2 l3 : Option cf_AV} {x : Int32} {st : List cf_AV} {w : cf_Wd} {Q : cf_Rs → Prop} : cf_wp T_P_begin (13, [l0, l1, l2, l3], .inl x :: st, w) Q ↔ (if x = 0 then cf_wp T_P_begin (34, [l0, l1, l2, l3], st, w) Q else cf_wp T_P_begin (16, [l0, l1, l2, l3], st, w) Q) := cf_wi rfl
theorem r_P_begin_16 {l0 l2 l3 : Option cf_AV} {x : Int32} {st : List cf_AV} {w : cf_Wd} {Q : cf_Rs → Prop} : cf_wp T_P_begin (16, [l0, some (.inl x), l2, l3], st, w) Q ↔ cf_wp T_P_begin (17, [l0, some (.inl x), l2, l3], .inl x :: st, w) Q := cf_w1 rfl
theorem r_P_begin_17 {l0 l1 l3 : Option cf_AV} {x : Int32} {st : List cf_AV} {w : cf_Wd} {Q : cf_Rs → Prop} : cf_wp T_P_begin (17, [l0, l1, some (.inl x), l3], st, w) Q ↔ cf_wp T_P_begin (18, [l0, l1, some (.inl x), l3], .inl x :: st, w) Q := cf_w1 rfl
theorem r_P_begin_18 {l0 l1 l2 l3 : Option cf_AV} {x y : Int32} {st : List cf_AV} {w : cf_Wd} {Q : cf_Rs → Prop} : cf_wp T_P_begin (18, [l0, l1, l2, l3], .inl y :: .inl x :: st, w) Q ↔ (if x = y then cf_wp T_P_begin (34, [l0, l1, l2, l3], st, w) Q else cf_wp T_P_begin (21, [l0, l1, l2, l3], st, w) Q) := cf_wi rfl
theorem r_P_begin_21 {l1 l2 l3 : Option cf_AV} {k : Nat} {st : List cf_AV} {w : cf_Wd} {Q : cf_Rs → Prop} : cf_wp T_P_begin (21, [some (.inr k), l1, l2, l3], st, w) Q ↔ cf_wp T_P_begin (22, [some (.inr k), l1, l2, l3], .inr k :: st, w) Q := cf_w1 rfl
theorem r_P_begin_22 {l0 l1 l2 l3 : Option cf_AV} {st : List cf_AV} {w : cf_Wd} {Q : cf_Rs → Prop} : cf_wp T_P_begin (22, [l0, l1, l2, l3], .inr 15 :: st, w) Q ↔ cf_wp T_P_begin (25, [l0, l1, l2, l3], .inr 19 :: st, w) Q := cf_w1 rfl
theorem r_P_begin_25 {l0 l1 l3 : Option cf_AV} {x : Int32} {st : List cf_AV} {w : cf_Wd} {Q : cf_Rs → Prop} : cf_wp T_P_begin (25, [l0, l1, some (.inl x), l3], st, w) Q ↔ cf_wp T_P_begin (26, [l0, l1, some (.inl x), l3], .inl x :: st, w) Q := cf_w1 rfl
theorem r_P_begin_26 {l0 l1 l2 l3 : Option cf_AV} {i : Int32} {st : List cf_AV} {w : cf_Wd} {Q : cf_Rs → Prop} : cf_wp T_P_begin (26, [l0, l1, l2, l3], .inl i :: .inr 19 :: st, w) Q ↔ (cf_in i 14 = true ∧ cf_wp T_P_begin (27, [l0, l1, l2, l3], .inl (w 19 i.toNatClampNeg) :: st, w) Q) := cf_wg rfl
theorem r_P_begin_27 {l0 l2 l3 : Option cf_AV} {x : Int32} {st : List cf_AV} {w : cf_Wd} {Q : cf_Rs → Prop} : cf_wp T_P_begin (27, [l0, some (.inl x), l2, l3], st, w) Q ↔ cf_wp T_P_begin (28, [l0, some (.inl x), l2, l3], .inl x :: st, w) Q := cf_w1 rfl
theorem r_P_begin_28 {l0 l1 l2 l3 : Option cf_AV} {x y : Int32} {st : List cf_AV} {w : cf_Wd} {Q : cf_Rs → Prop} : cf_wp T_P_begin (28, [l0, l1, l2, l3], .inl y :: .inl x :: st, w) Q ↔ cf_wp T_P_begin (29, [l0, l1, l2, l3], .inl (x >>> (y &&& 31)) :: st, w) Q := cf_w1 rfl
theorem r_P_begin_29 {l0 l1 l2 l3 : Option cf_AV} {st : List cf_AV} {w : cf_Wd} {Q : cf_Rs → Prop} : cf_wp T_P_begin (29, [l0, l1, l2, l3], st, w) Q ↔ cf_wp T_P_begin (30, [l0, l1, l2, l3], .inl 1 :: st, w) Q := cf_w1 rfl
theorem r_P_begin_30 {l0 l1 l2 l3 : Option cf_AV} {x y : Int32} {st : List cf_AV} {w : cf_Wd} {Q : cf_Rs → Prop} : cf_wp T_P_begin (30, [l0, l1, l2, l3], .inl y :: .inl x :: st, w) Q ↔ cf_wp T_P_begin (31, [l0, l1, l2, l3], .inl (x &&& y) :: st, w) Q := cf_w1 rfl
theorem r_P_begin_31 {l0 l1 l2 l3 : Option cf_AV} {x : Int32} {st : List cf_AV} {w : cf_Wd} {Q : cf_Rs → Prop} : cf_wp T_P_begin (31, [l0, l1, l2, l3], .inl x :: st, w) Q ↔ (if ¬ x = 0 then cf_wp T_P_begin (36, [l0, l1, l2, l3], st, w) Q else cf_wp T_P_begin (34, [l0, l1, l2, l3], st, w) Q) := cf_wi rfl
theorem r_P_begin_34 {l0 l1 l2 l3 : Option cf_AV} {st : List cf_AV} {w : cf_Wd} {Q : cf_Rs → Prop} : cf_wp T_P_begin (34, [l0, l1, l2, l3], st, w) Q ↔ cf_wp T_P_begin (35, [l0, l1, l2, l3], .inl 0 :: st, w) Q := cf_w1 rfl
theorem r_P_begin_35 {l0 l1 l2 l3 : Option cf_AV} {x : Int32} {w : cf_Wd} {P : Int32 → cf_Wd → Prop} : cf_wp T_P_begin (35, [l0, l1, l2, l3], [.inl x], w) (cf_qb P) ↔ ((x = 0 ∨ x = 1) ∧ P x w) := Iff.trans (cf_wr (q := (some (.inl x), w)) rfl) Iff.rfl
theorem r_P_begin_36 {l1 l2 l3 : Option cf_AV} {k : Nat} {st : List cf_AV} {w : cf_Wd} {Q : cf_Rs → Prop} : cf_wp T_P_begin (36, [some (.inr k), l1, l2, l3], st, w) Q ↔ cf_wp T_P_begin (37, [some (.inr k), l1, l2, l3], .inr k :: st, w) Q := cf_w1 rfl
theorem r_P_begin_37 {l0 l1 l2 l3 : Option cf_AV} {st : List cf_AV} {w : cf_Wd} {Q : cf_Rs → Prop} : cf_wp T_P_begin (37, [l0, l1, l2, l3], st, w) Q ↔ cf_wp T_P_begin (38, [l0, l1, l2, l3], .inl 1 :: st, w) Q := cf_w1 rfl
theorem r_P_begin_38 {l0 l1 l2 l3 : Option cf_AV} {x : Int32} {st : List cf_AV} {w : cf_Wd} {Q : cf_Rs → Prop} : cf_wp T_P_begin (38, [l0, l1, l2, l3], .inl x :: .inr 15 :: st, w) Q ↔ ((x == 0 || x == 1) = true ∧ cf_wp T_P_begin (41, [l0, l1, l2, l3], st, (cf_wa w 15 (upd (w 15) 5 x))) Q) := cf_wg rfl
theorem r_P_begin_41 {l1 l2 l3 : Option cf_AV} {k : Nat} {st : List cf_AV} {w : cf_Wd} {Q : cf_Rs → Prop} : cf_wp T_P_begin (41, [some (.inr k), l1, l2, l3], st, w) Q ↔ cf_wp T_P_begin (42, [some (.inr k), l1, l2, l3], .inr k :: st, w) Q := cf_w1 rfl
theorem r_P_begin_42 {l0 l2 l3 : Option cf_AV} {x : Int32} {st : List cf_AV} {w : cf_Wd} {Q : cf_Rs → Prop} : cf_wp T_P_begin (42, [l0, some (.inl x), l2, l3], st, w) Q ↔ cf_wp T_P_begin (43, [l0, some (.inl x), l2, l3], .inl x :: st, w) Q := cf_w1 rfl
theorem r_P_begin_43 {l0 l1 l2 l3 : Option cf_AV} {x : Int32} {st : List cf_AV} {w : cf_Wd} {Q : cf_Rs → Prop} : cf_wp T_P_begin (43, [l0, l1, l2, l3], .inl x :: .inr 15 :: st, w) Q ↔ cf_wp T_P_begin (46, [l0, l1, l2, l3], st, (cf_wa w 15 (upd (w 15) 6 x))) Q := cf_w1 rfl
theorem r_P_begin_46 {l1 l2 l3 : Option cf_AV} {k : Nat} {st : List cf_AV} {w : cf_Wd} {Q : cf_Rs → Prop} : cf_wp T_P_begin (46, [some (.inr k), l1, l2, l3], st, w) Q ↔ cf_wp T_P_begin (47, [some (.inr k), l1, l2, l3], .inr k :: st, w) Q := cf_w1 rfl
theorem r_P_begin_47 {l0 l1 l3 : Option cf_AV} {x : Int32} {st : List cf_AV} {w : cf_Wd} {Q : cf_Rs → Prop} : cf_wp T_P_begin (47, [l0, l1, some (.inl x), l3], st, w) Q ↔ cf_wp T_P_begin (48, [l0, l1, some (.inl x), l3], .inl x :: st, w) Q := cf_w1 rfl
theorem r_P_begin_48 {l0 l1 l2 l3 : Option cf_AV} {x : Int32} {st : List cf_AV} {w : cf_Wd} {Q : cf_Rs → Prop} : cf_wp T_P_begin (48, [l0, l1, l2, l3], .inl x :: .inr 15 :: st, w) Q ↔ cf_wp T_P_begin (51, [l0, l1, l2, l3], st, (cf_wa w 15 (upd (w 15) 7 x))) Q := cf_w1 rfl
theorem r_P_begin_51 {l1 l2 l3 : Option cf_AV} {k : Nat} {st : List cf_AV} {w : cf_Wd} {Q : cf_Rs → Prop} : cf_wp T_P_begin (51, [some (.inr k), l1, l2, l3], st, w) Q ↔ cf_wp T_P_begin (52, [some (.inr k), l1, l2, l3], .inr k :: st, w) Q := cf_w1 rfl
theorem r_P_begin_52 {l0 l1 l2 : Option cf_AV} {x : Int32} {st : List cf_AV} {w : cf_Wd} {Q : cf_Rs → Prop} : cf_wp T_P_begin (52, [l0, l1, l2, some (.inl x)], st, w) Q ↔ cf_wp T_P_begin (53, [l0, l1, l2, some (.inl x)], .inl x :: st, w) Q := cf_w1 rfl
theorem r_P_begin_53 {l0 l1 l2 l3 : Option cf_AV} {x : Int32} {st : List cf_AV} {w : cf_Wd} {Q : cf_Rs → Prop} : cf_wp T_P_begin (53, [l0, l1, l2, l3], .inl x :: .inr 15 :: st, w) Q ↔ cf_wp T_P_begin (56, [l0, l1, l2, l3], st, (cf_wa w 15 (upd (w 15) 8 x))) Q := cf_w1 rfl
theorem r_P_begin_56 {l1 l2 l3 : Option cf_AV} {k : Nat} {st : List cf_AV} {w : cf_Wd} {Q : cf_Rs → Prop} : cf_wp T_P_begin (56, [some (.inr k), l1, l2, l3], st, w) Q ↔ cf_wp T_P_begin (57, [some (.inr k), l1, l2, l3], .inr k :: st, w) Q := cf_w1 rfl
theorem r_P_begin_57 {l0 l1 l2 l3 : Option cf_AV} {st : List cf_AV} {w : cf_Wd} {Q : cf_Rs → Prop} : cf_wp T_P_begin (57, [l0, l1, l2, l3], st, w) Q ↔ cf_wp T_P_begin (58, [l0, l1, l2, l3], .inl 0 :: st, w) Q := cf_w1 rfl
theorem r_P_begin_58 {l0 l1 l2 l3 : Option cf_AV} {x : Int32} {st : List cf_AV} {w : cf_Wd} {Q : cf_Rs → Prop} : cf_wp T_P_begin (58, [l0, l1, l2, l3], .inl x :: .inr 15 :: st, w) Q ↔ ((x == 0 || x == 1) = true ∧ cf_wp T_P_begin (61, [l0, l1, l2, l3], st, (cf_wa w 15 (upd (w 15) 9 x))) Q) := cf_wg rfl
theorem r_P_begin_61 {l1 l2 l3 : Option cf_AV} {k : Nat} {st : List cf_AV} {w : cf_Wd} {Q : cf_Rs → Prop} : cf_wp T_P_begin (61, [some (.inr k), l1, l2, l3], st, w) Q ↔ cf_wp T_P_begin (62, [some (.inr k), l1, l2, l3], .inr k :: st, w) Q := cf_w1 rfl
theorem r_P_begin_62 {l0 l1 l2 l3 : Option cf_AV} {st : List cf_AV} {w : cf_Wd} {Q : cf_Rs → Prop} : cf_wp T_P_begin (62, [l0, l1, l2, l3], st, w) Q ↔ cf_wp T_P_begin (63, [l0, l1, l2, l3], .inl 0 :: st, w) Q := cf_w1 rfl
theorem r_P_begin_63 {l0 l1 l2 l3 : Option cf_AV} {x : Int32} {st : List cf_AV} {w : cf_Wd} {Q : cf_Rs → Prop} : cf_wp T_P_begin (63, [l0, l1, l2, l3], .inl x :: .inr 15 :: st, w) Q ↔ cf_wp T_P_begin (66, [l0, l1, l2, l3], st, (cf_wa w 15 (upd (w 15) 11 x))) Q := cf_w1 rfl
theorem r_P_begin_66 {l0 l1 l2 l3 : Option cf_AV} {st : List cf_AV} {w : cf_Wd} {Q : cf_Rs → Prop} : cf_wp T_P_begin (66, [l0, l1, l2, l3], st, w) Q ↔ cf_wp T_P_begin (67, [l0, l1, l2, l3], .inl 1 :: st, w) Q := cf_w1 rfl
theorem r_P_begin_67 {l0 l1 l2 l3 : Option cf_AV} {x : Int32} {w : cf_Wd} {P : Int32 → cf_Wd → Prop} : cf_wp T_P_begin (67, [l0, l1, l2, l3], [.inl x], w) (cf_qb P) ↔ ((x = 0 ∨ x = 1) ∧ P x w) := Iff.trans (cf_wr (q := (some (.inl x), w)) rfl) Iff.rfl
theorem e_P_begin {a1 a2 a3 : Int32} {w : cf_Wd} {P : Int32 → cf_Wd → Prop} (h : cf_wp T_P_begin (0, [some (.inr 15), some (.inl a1), some (.inl a2), some (.inl a3)], [], w) (cf_qb P)) : ∃ x w1, F_P_begin [.inr 15, .inl a1, .inl a2, .inl a3] w = some (some (.inl x), w1) ∧ P x w1 := cf_eb rfl (Nat.le_of_ble_eq_true rfl) h
