noncomputable def T_P_end (pc : Nat) : cf_Rw := bif Nat.ble pc 6 then
 (bif Nat.ble pc 1 then
  (bif Nat.ble pc 0 then
   (bif Nat.beq pc 0 then cf_aload 0 1 else cf_stuck)
   else
   (bif Nat.beq pc 1 then cf_get 5 5 4 else cf_stuck))
  else
  (bif Nat.ble pc 4 then
   (bif Nat.beq pc 4 then cf_istore 1 5 else cf_stuck)
   else
   (bif Nat.ble pc 5 then
    (bif Nat.beq pc 5 then cf_aload 0 6 else cf_stuck)
    else
    (bif Nat.beq pc 6 then cf_const 0 7 else cf_stuck))))
 else
 (bif Nat.ble pc 11 then
  (bif Nat.ble pc 7 then
   (bif Nat.beq pc 7 then cf_putz 5 5 10 else cf_stuck)
   else
   (bif Nat.ble pc 10 then
    (bif Nat.beq pc 10 then cf_aload 0 11 else cf_stuck)
    else
    (bif Nat.beq pc 11 then cf_const 0 12 else cf_stuck)))
  else
  (bif Nat.ble pc 12 then
   (bif Nat.beq pc 12 then cf_putz 5 9 15 else cf_stuck)
   else
   (bif Nat.ble pc 15 then
    (bif Nat.beq pc 15 then cf_iload 1 16 else cf_stuck)
    else
    (bif Nat.beq pc 16 then cf_iret else cf_stuck))))
noncomputable def F_P_end : List cf_AV → cf_Wd → Option cf_Rs := cf_F T_P_end 2 (some .boolean) (cf_shV 15 0)
theorem r_P_end_0 {l1 : Option cf_AV} {k : Nat} {st : List cf_AV} {w : cf_Wd} {Q : cf_Rs → Prop} : cf_wp T_P_end (0, [some (.inr k), l1], st, w) Q ↔ cf_wp T_P_end (1, [some (.inr k), l1], .inr k :: st, w) Q := cf_w1 rfl
theorem r_P_end_1 {l0 l1 : Option cf_AV} {st : List cf_AV} {w : cf_Wd} {Q : cf_Rs → Prop} : cf_wp T_P_end (1, [l0, l1], .inr 15 :: st, w) Q ↔ cf_wp T_P_end (4, [l0, l1], .inl (w 15 5) :: st, w) Q := cf_w1 rfl
theorem r_P_end_4 {l0 l1 : Option cf_AV} {x : Int32} {st : List cf_AV} {w : cf_Wd} {Q : cf_Rs → Prop} : cf_wp T_P_end (4, [l0, l1], .inl x :: st, w) Q ↔ cf_wp T_P_end (5, [l0, some (.inl x)], st, w) Q := cf_w1 rfl
theorem r_P_end_5 {l1 : Option cf_AV} {k : Nat} {st : List cf_AV} {w : cf_Wd} {Q : cf_Rs → Prop} : cf_wp T_P_end (5, [some (.inr k), l1], st, w) Q ↔ cf_wp T_P_end (6, [some (.inr k), l1], .inr k :: st, w) Q := cf_w1 rfl
theorem r_P_end_6 {l0 l1 : Option cf_AV} {st : List cf_AV} {w : cf_Wd} {Q : cf_Rs → Prop} : cf_wp T_P_end (6, [l0, l1], st, w) Q ↔ cf_wp T_P_end (7, [l0, l1], .inl 0 :: st, w) Q := cf_w1 rfl
theorem r_P_end_7 {l0 l1 : Option cf_AV} {x : Int32} {st : List cf_AV} {w : cf_Wd} {Q : cf_Rs → Prop} : cf_wp T_P_end (7, [l0, l1], .inl x :: .inr 15 :: st, w) Q ↔ ((x == 0 || x == 1) = true ∧ cf_wp T_P_end (10, [l0, l1], st, (cf_wa w 15 (upd (w 15) 5 x))) Q) := cf_wg rfl
theorem r_P_end_10 {l1 : Option cf_AV} {k : Nat} {st : List cf_AV} {w : cf_Wd} {Q : cf_Rs → Prop} : cf_wp T_P_end (10, [some (.inr k), l1], st, w) Q ↔ cf_wp T_P_end (11, [some (.inr k), l1], .inr k :: st, w) Q := cf_w1 rfl
theorem r_P_end_11 {l0 l1 : Option cf_AV} {st : List cf_AV} {w : cf_Wd} {Q : cf_Rs → Prop} : cf_wp T_P_end (11, [l0, l1], st, w) Q ↔ cf_wp T_P_end (12, [l0, l1], .inl 0 :: st, w) Q := cf_w1 rfl
theorem r_P_end_12 {l0 l1 : Option cf_AV} {x : Int32} {st : List cf_AV} {w : cf_Wd} {Q : cf_Rs → Prop} : cf_wp T_P_end (12, [l0, l1], .inl x :: .inr 15 :: st, w) Q ↔ ((x == 0 || x == 1) = true ∧ cf_wp T_P_end (15, [l0, l1], st, (cf_wa w 15 (upd (w 15) 9 x))) Q) := cf_wg rfl
theorem r_P_end_15 {l0 : Option cf_AV} {x : Int32} {st : List cf_AV} {w : cf_Wd} {Q : cf_Rs → Prop} : cf_wp T_P_end (15, [l0, some (.inl x)], st, w) Q ↔ cf_wp T_P_end (16, [l0, some (.inl x)], .inl x :: st, w) Q := cf_w1 rfl
theorem r_P_end_16 {l0 l1 : Option cf_AV} {x : Int32} {w : cf_Wd} {P : Int32 → cf_Wd → Prop} : cf_wp T_P_end (16, [l0, l1], [.inl x], w) (cf_qb P) ↔ ((x = 0 ∨ x = 1) ∧ P x w) := Iff.trans (cf_wr (q := (some (.inl x), w)) rfl) Iff.rfl
theorem e_P_end {w : cf_Wd} {P : Int32 → cf_Wd → Prop} (h : cf_wp T_P_end (0, [some (.inr 15), none], [], w) (cf_qb P)) : ∃ x w1, F_P_end [.inr 15] w = some (some (.inl x), w1) ∧ P x w1 := cf_eb rfl (Nat.le_of_ble_eq_true rfl) h
noncomputable def T_P_bits (pc : Nat) : cf_Rw := bif Nat.ble pc 10 then
 (bif Nat.ble pc 3 then
  (bif Nat.ble pc 1 then
   (bif Nat.ble pc 0 then
    (bif Nat.beq pc 0 then cf_const 0 1 else cf_stuck)
    else
    (bif Nat.beq pc 1 then cf_istore 1 2 else cf_stuck))
   else
   (bif Nat.ble pc 2 then
    (bif Nat.beq pc 2 then cf_iload 0 3 else cf_stuck)
    else
    (bif Nat.beq pc 3 then cf_istore 2 4 else cf_stuck)))
  else
  (bif Nat.ble pc 5 then
   (bif Nat.ble pc 4 then
    (bif Nat.beq pc 4 then cf_iload 2 5 else cf_stuck)
    else
    (bif Nat.beq pc 5 then cf_ifeq 21 8 else cf_stuck))
   else
   (bif Nat.ble pc 8 then
    (bif Nat.beq pc 8 then cf_iload 1 9 else cf_stuck)
    else
    (bif Nat.ble pc 9 then
     (bif Nat.beq pc 9 then cf_const 1 10 else cf_stuck)
     else
     (bif Nat.beq pc 10 then cf_bin (fun x y => x + y) 11 else cf_stuck)))))
 else
 (bif Nat.ble pc 15 then
  (bif Nat.ble pc 12 then
   (bif Nat.ble pc 11 then
    (bif Nat.beq pc 11 then cf_istore 1 12 else cf_stuck)
    else
    (bif Nat.beq pc 12 then cf_iload 2 13 else cf_stuck))
   else
   (bif Nat.ble pc 13 then
    (bif Nat.beq pc 13 then cf_iload 2 14 else cf_stuck)
    else
    (bif Nat.ble pc 14 then
     (bif Nat.beq pc 14 then cf_const 1 15 else cf_stuck)
     else
     (bif Nat.beq pc 15 then cf_bin (fun x y => x - y) 16 else cf_stuck))))
  else
  (bif Nat.ble pc 17 then
   (bif Nat.ble pc 16 then
    (bif Nat.beq pc 16 then cf_bin (fun x y => x &&& y) 17 else cf_stuck)
    else
    (bif Nat.beq pc 17 then cf_istore 2 18 else cf_stuck))
   else
   (bif Nat.ble pc 18 then
    (bif Nat.beq pc 18 then cf_goto 4 else cf_stuck)
    else
    (bif Nat.ble pc 21 then
     (bif Nat.beq pc 21 then cf_iload 1 22 else cf_stuck)
     else
     (bif Nat.beq pc 22 then cf_iret else cf_stuck)))))
noncomputable def F_P_bits : List cf_AV → cf_Wd → Option cf_Rs := cf_F T_P_bits 3 (some .int) (cf_shS 1)
theorem r_P_bits_0 {l0 l1 l2 : Option cf_AV} {st : List cf_AV} {w : cf_Wd} {Q : cf_Rs → Prop} : cf_wp T_P_bits (0, [l0, l1, l2], st, w) Q ↔ cf_wp T_P_bits (1, [l0, l1, l2], .inl 0 :: st, w) Q := cf_w1 rfl
theorem r_P_bits_1 {l0 l1 l2 : Option cf_AV} {x : Int32} {st : List cf_AV} {w : cf_Wd} {Q : cf_Rs → Prop} : cf_wp T_P_bits (1, [l0, l1, l2], .inl x :: st, w) Q ↔ cf_wp T_P_bits (2, [l0, some (.inl x), l2], st, w) Q := cf_w1 rfl
theorem r_P_bits_2 {l1 l2 : Option cf_AV} {x : Int32} {st : List cf_AV} {w : cf_Wd} {Q : cf_Rs → Prop} : cf_wp T_P_bits (2, [some (.inl x), l1, l2], st, w) Q ↔ cf_wp T_P_bits (3, [some (.inl x), l1, l2], .inl x :: st, w) Q := cf_w1 rfl
theorem r_P_bits_3 {l0 l1 l2 : Option cf_AV} {x : Int32} {st : List cf_AV} {w : cf_Wd} {Q : cf_Rs → Prop} : cf_wp T_P_bits (3, [l0, l1, l2], .inl x :: st, w) Q ↔ cf_wp T_P_bits (4, [l0, l1, some (.inl x)], st, w) Q := cf_w1 rfl
theorem r_P_bits_4 {l0 l1 : Option cf_AV} {x : Int32} {st : List cf_AV} {w : cf_Wd} {Q : cf_Rs → Prop} : cf_wp T_P_bits (4, [l0, l1, some (.inl x)], st, w) Q ↔ cf_wp T_P_bits (5, [l0, l1, some (.inl x)], .inl x :: st, w) Q := cf_w1 rfl
theorem r_P_bits_5 {l0 l1 l2 : Option cf_AV} {x : Int32} {st : List cf_AV} {w : cf_Wd} {Q : cf_Rs → Prop} : cf_wp T_P_bits (5, [l0, l1, l2], .inl x :: st, w) Q ↔ (if x = 0 then cf_wp T_P_bits (21, [l0, l1, l2], st, w) Q else cf_wp T_P_bits (8, [l0, l1, l2], st, w) Q) := cf_wi rfl
theorem r_P_bits_8 {l0 l2 : Option cf_AV} {x : Int32} {st : List cf_AV} {w : cf_Wd} {Q : cf_Rs → Prop} : cf_wp T_P_bits (8, [l0, some (.inl x), l2], st, w) Q ↔ cf_wp T_P_bits (9, [l0, some (.inl x), l2], .inl x :: st, w) Q := cf_w1 rfl
theorem r_P_bits_9 {l0 l1 l2 : Option cf_AV} {st : List cf_AV} {w : cf_Wd} {Q : cf_Rs → Prop} : cf_wp T_P_bits (9, [l0, l1, l2], st, w) Q ↔ cf_wp T_P_bits (10, [l0, l1, l2], .inl 1 :: st, w) Q := cf_w1 rfl
theorem r_P_bits_10 {l0 l1 l2 : Option cf_AV} {x y : Int32} {st : List cf_AV} {w : cf_Wd} {Q : cf_Rs → Prop} : cf_wp T_P_bits (10, [l0, l1, l2], .inl y :: .inl x :: st, w) Q ↔ cf_wp T_P_bits (11, [l0, l1, l2], .inl (x + y) :: st, w) Q := cf_w1 rfl
theorem r_P_bits_11 {l0 l1 l2 : Option cf_AV} {x : Int32} {st : List cf_AV} {w : cf_Wd} {Q : cf_Rs → Prop} : cf_wp T_P_bits (11, [l0, l1, l2], .inl x :: st, w) Q ↔ cf_wp T_P_bits (12, [l0, some (.inl x), l2], st, w) Q := cf_w1 rfl
theorem r_P_bits_12 {l0 l1 : Option cf_AV} {x : Int32} {st : List cf_AV} {w : cf_Wd} {Q : cf_Rs → Prop} : cf_wp T_P_bits (12, [l0, l1, some (.inl x)], st, w) Q ↔ cf_wp T_P_bits (13, [l0, l1, some (.inl x)], .inl x :: st, w) Q := cf_w1 rfl
theorem r_P_bits_13 {l0 l1 : Option cf_AV} {x : Int32} {st : List cf_AV} {w : cf_Wd} {Q : cf_Rs → Prop} : cf_wp T_P_bits (13, [l0, l1, some (.inl x)], st, w) Q ↔ cf_wp T_P_bits (14, [l0, l1, some (.inl x)], .inl x :: st, w) Q := cf_w1 rfl
theorem r_P_bits_14 {l0 l1 l2 : Option cf_AV} {st : List cf_AV} {w : cf_Wd} {Q : cf_Rs → Prop} : cf_wp T_P_bits (14, [l0, l1, l2], st, w) Q ↔ cf_wp T_P_bits (15, [l0, l1, l2], .inl 1 :: st, w) Q := cf_w1 rfl
theorem r_P_bits_15 {l0 l1 l2 : Option cf_AV} {x y : Int32} {st : List cf_AV} {w : cf_Wd} {Q : cf_Rs → Prop} : cf_wp T_P_bits (15, [l0, l1, l2], .inl y :: .inl x :: st, w) Q ↔ cf_wp T_P_bits (16, [l0, l1, l2], .inl (x - y) :: st, w) Q := cf_w1 rfl
theorem r_P_bits_16 {l0 l1 l2 : Option cf_AV} {x y : Int32} {st : List cf_AV} {w : cf_Wd} {Q : cf_Rs → Prop} : cf_wp T_P_bits (16, [l0, l1, l2], .inl y :: .inl x :: st, w) Q ↔ cf_wp T_P_bits (17, [l0, l1, l2], .inl (x &&& y) :: st, w) Q := cf_w1 rfl
theorem r_P_bits_17 {l0 l1 l2 : Option cf_AV} {x : Int32} {st : List cf_AV} {w : cf_Wd} {Q : cf_Rs → Prop} : cf_wp T_P_bits (17, [l0, l1, l2], .inl x :: st, w) Q ↔ cf_wp T_P_bits (18, [l0, l1, some (.inl x)], st, w) Q := cf_w1 rfl
theorem r_P_bits_18 {l0 l1 l2 : Option cf_AV} {st : List cf_AV} {w : cf_Wd} {Q : cf_Rs → Prop} : cf_wp T_P_bits (18, [l0, l1, l2], st, w) Q ↔ cf_wp T_P_bits (4, [l0, l1, l2], st, w) Q := cf_w1 rfl
theorem r_P_bits_21 {l0 l2 : Option cf_AV} {x : Int32} {st : List cf_AV} {w : cf_Wd} {Q : cf_Rs → Prop} : cf_wp T_P_bits (21, [l0, some (.inl x), l2], st, w) Q ↔ cf_wp T_P_bits (22, [l0, some (.inl x), l2], .inl x :: st, w) Q := cf_w1 rfl
theorem r_P_bits_22 {l0 l1 l2 : Option cf_AV} {x : Int32} {w : cf_Wd} {P : Int32 → cf_Wd → Prop} : cf_wp T_P_bits (22, [l0, l1, l2], [.inl x], w) (cf_qi P) ↔ P x w := Iff.trans (cf_wr (q := (some (.inl x), w)) rfl) Iff.rfl
theorem e_P_bits {a0 : Int32} {w : cf_Wd} {P : Int32 → cf_Wd → Prop} (h : cf_wp T_P_bits (0, [some (.inl a0), none, none], [], w) (cf_qi P)) : ∃ x w1, F_P_bits [.inl a0] w = some (some (.inl x), w1) ∧ P x w1 := cf_ei rfl (Nat.le_of_ble_eq_true rfl) h
noncomputable def T_P_known (pc : Nat) : cf_Rw := bif Nat.ble pc 18 then
 (bif Nat.ble pc 7 then
  (bif Nat.ble pc 2 then
   (bif Nat.ble pc 0 then
    (bif Nat.beq pc 0 then cf_const 0 1 else cf_stuck)
    else
    (bif Nat.ble pc 1 then
     (bif Nat.beq pc 1 then cf_istore 3 2 else cf_stuck)
     else
     (bif Nat.beq pc 2 then cf_const 0 3 else cf_stuck)))
   else
   (bif Nat.ble pc 3 then
    (bif Nat.beq pc 3 then cf_istore 4 5 else cf_stuck)
    else
    (bif Nat.ble pc 5 then
     (bif Nat.beq pc 5 then cf_iload 4 7 else cf_stuck)
     else
     (bif Nat.beq pc 7 then cf_iload 2 8 else cf_stuck))))
  else
  (bif Nat.ble pc 12 then
   (bif Nat.ble pc 8 then
    (bif Nat.beq pc 8 then cf_icge 40 11 else cf_stuck)
    else
    (bif Nat.ble pc 11 then
     (bif Nat.beq pc 11 then cf_aload 0 12 else cf_stuck)
     else
     (bif Nat.beq pc 12 then cf_get 5 12 15 else cf_stuck)))
   else
   (bif Nat.ble pc 15 then
    (bif Nat.beq pc 15 then cf_iload 4 17 else cf_stuck)
    else
    (bif Nat.ble pc 17 then
     (bif Nat.beq pc 17 then cf_iald 18 else cf_stuck)
     else
     (bif Nat.beq pc 18 then cf_iload 1 19 else cf_stuck)))))
 else
 (bif Nat.ble pc 29 then
  (bif Nat.ble pc 23 then
   (bif Nat.ble pc 19 then
    (bif Nat.beq pc 19 then cf_icne 32 22 else cf_stuck)
    else
    (bif Nat.ble pc 22 then
     (bif Nat.beq pc 22 then cf_aload 0 23 else cf_stuck)
     else
     (bif Nat.beq pc 23 then cf_get 5 13 26 else cf_stuck)))
   else
   (bif Nat.ble pc 26 then
    (bif Nat.beq pc 26 then cf_iload 4 28 else cf_stuck)
    else
    (bif Nat.ble pc 28 then
     (bif Nat.beq pc 28 then cf_iald 29 else cf_stuck)
     else
     (bif Nat.beq pc 29 then cf_goto 33 else cf_stuck))))
  else
  (bif Nat.ble pc 34 then
   (bif Nat.ble pc 32 then
    (bif Nat.beq pc 32 then cf_iload 3 33 else cf_stuck)
    else
    (bif Nat.ble pc 33 then
     (bif Nat.beq pc 33 then cf_istore 3 34 else cf_stuck)
     else
     (bif Nat.beq pc 34 then cf_iinc 4 1 37 else cf_stuck)))
   else
   (bif Nat.ble pc 37 then
    (bif Nat.beq pc 37 then cf_goto 5 else cf_stuck)
    else
    (bif Nat.ble pc 40 then
     (bif Nat.beq pc 40 then cf_iload 3 41 else cf_stuck)
     else
     (bif Nat.beq pc 41 then cf_iret else cf_stuck)))))
noncomputable def F_P_known : List cf_AV → cf_Wd → Option cf_Rs := cf_F T_P_known 5 (some .int) (cf_shV 15 2)
theorem r_P_known_0 {l0 l1 l2 l3 l4 : Option cf_AV} {st : List cf_AV} {w : cf_Wd} {Q : cf_Rs → Prop} : cf_wp T_P_known (0, [l0, l1, l2, l3, l4], st, w) Q ↔ cf_wp T_P_known (1, [l0, l1, l2, l3, l4], .inl 0 :: st, w) Q := cf_w1 rfl
theorem r_P_known_1 {l0 l1 l2 l3 l4 : Option cf_AV} {x : Int32} {st : List cf_AV} {w : cf_Wd} {Q : cf_Rs → Prop} : cf_wp T_P_known (1, [l0, l1, l2, l3, l4], .inl x :: st, w) Q ↔ cf_wp T_P_known (2, [l0, l1, l2, some (.inl x), l4], st, w) Q := cf_w1 rfl
theorem r_P_known_2 {l0 l1 l2 l3 l4 : Option cf_AV} {st : List cf_AV} {w : cf_Wd} {Q : cf_Rs → Prop} : cf_wp T_P_known (2, [l0, l1, l2, l3, l4], st, w) Q ↔ cf_wp T_P_known (3, [l0, l1, l2, l3, l4], .inl 0 :: st, w) Q := cf_w1 rfl
theorem r_P_known_3 {l0 l1 l2 l3 l4 : Option cf_AV} {x : Int32} {st : List cf_AV} {w : cf_Wd} {Q : cf_Rs → Prop} : cf_wp T_P_known (3, [l0, l1, l2, l3, l4], .inl x :: st, w) Q ↔ cf_wp T_P_known (5, [l0, l1, l2, l3, some (.inl x)], st, w) Q := cf_w1 rfl
theorem r_P_known_5 {l0 l1 l2 l3 : Option cf_AV} {x : Int32} {st : List cf_AV} {w : cf_Wd} {Q : cf_Rs → Prop} : cf_wp T_P_known (5, [l0, l1, l2, l3, some (.inl x)], st, w) Q ↔ cf_wp T_P_known (7, [l0, l1, l2, l3, some (.inl x)], .inl x :: st, w) Q := cf_w1 rfl
theorem r_P_known_7 {l0 l1 l3 l4 : Option cf_AV} {x : Int32} {st : List cf_AV} {w : cf_Wd} {Q : cf_Rs → Prop} : cf_wp T_P_known (7, [l0, l1, some (.inl x), l3, l4], st, w) Q ↔ cf_wp T_P_known (8, [l0, l1, some (.inl x), l3, l4], .inl x :: st, w) Q := cf_w1 rfl
theorem r_P_known_8 {l0 l1 l2 l3 l4 : Option cf_AV} {x y : Int32} {st : List cf_AV} {w : cf_Wd} {Q : cf_Rs → Prop} : cf_wp T_P_known (8, [l0, l1, l2, l3, l4], .inl y :: .inl x :: st, w) Q ↔ (if y ≤ x then cf_wp T_P_known (40, [l0, l1, l2, l3, l4], st, w) Q else cf_wp T_P_known (11, [l0, l1, l2, l3, l4], st, w) Q) := cf_wi rfl
theorem r_P_known_11 {l1 l2 l3 l4 : Option cf_AV} {k : Nat} {st : List cf_AV} {w : cf_Wd} {Q : cf_Rs → Prop} : cf_wp T_P_known (11, [some (.inr k), l1, l2, l3, l4], st, w) Q ↔ cf_wp T_P_known (12, [some (.inr k), l1, l2, l3, l4], .inr k :: st, w) Q := cf_w1 rfl
theorem r_P_known_12 {l0 l1 l2 l3 l4 : Option cf_AV} {st : List cf_AV} {w : cf_Wd} {Q : cf_Rs → Prop} : cf_wp T_P_known (12, [l0, l1, l2, l3, l4], .inr 15 :: st, w) Q ↔ cf_wp T_P_known (15, [l0, l1, l2, l3, l4], .inr 20 :: st, w) Q := cf_w1 rfl
theorem r_P_known_15 {l0 l1 l2 l3 : Option cf_AV} {x : Int32} {st : List cf_AV} {w : cf_Wd} {Q : cf_Rs → Prop} : cf_wp T_P_known (15, [l0, l1, l2, l3, some (.inl x)], st, w) Q ↔ cf_wp T_P_known (17, [l0, l1, l2, l3, some (.inl x)], .inl x :: st, w) Q := cf_w1 rfl
theorem r_P_known_17 {l0 l1 l2 l3 l4 : Option cf_AV} {i : Int32} {st : List cf_AV} {w : cf_Wd} {Q : cf_Rs → Prop} : cf_wp T_P_known (17, [l0, l1, l2, l3, l4], .inl i :: .inr 20 :: st, w) Q ↔ (cf_in i 600 = true ∧ cf_wp T_P_known (18, [l0, l1, l2, l3, l4], .inl (w 20 i.toNatClampNeg) :: st, w) Q) := cf_wg rfl
theorem r_P_known_18 {l0 l2 l3 l4 : Option cf_AV} {x : Int32} {st : List cf_AV} {w : cf_Wd} {Q : cf_Rs → Prop} : cf_wp T_P_known (18, [l0, some (.inl x), l2, l3, l4], st, w) Q ↔ cf_wp T_P_known (19, [l0, some (.inl x), l2, l3, l4], .inl x :: st, w) Q := cf_w1 rfl
theorem r_P_known_19 {l0 l1 l2 l3 l4 : Option cf_AV} {x y : Int32} {st : List cf_AV} {w : cf_Wd} {Q : cf_Rs → Prop} : cf_wp T_P_known (19, [l0, l1, l2, l3, l4], .inl y :: .inl x :: st, w) Q ↔ (if ¬ x = y then cf_wp T_P_known (32, [l0, l1, l2, l3, l4], st, w) Q else cf_wp T_P_known (22, [l0, l1, l2, l3, l4], st, w) Q) := cf_wi rfl
theorem r_P_known_22 {l1 l2 l3 l4 : Option cf_AV} {k : Nat} {st : List cf_AV} {w : cf_Wd} {Q : cf_Rs → Prop} : cf_wp T_P_known (22, [some (.inr k), l1, l2, l3, l4], st, w) Q ↔ cf_wp T_P_known (23, [some (.inr k), l1, l2, l3, l4], .inr k :: st, w) Q := cf_w1 rfl
theorem r_P_known_23 {l0 l1 l2 l3 l4 : Option cf_AV} {st : List cf_AV} {w : cf_Wd} {Q : cf_Rs → Prop} : cf_wp T_P_known (23, [l0, l1, l2, l3, l4], .inr 15 :: st, w) Q ↔ cf_wp T_P_known (26, [l0, l1, l2, l3, l4], .inr 21 :: st, w) Q := cf_w1 rfl
theorem r_P_known_26 {l0 l1 l2 l3 : Option cf_AV} {x : Int32} {st : List cf_AV} {w : cf_Wd} {Q : cf_Rs → Prop} : cf_wp T_P_known (26, [l0, l1, l2, l3, some (.inl x)], st, w) Q ↔ cf_wp T_P_known (28, [l0, l1, l2, l3, some (.inl x)], .inl x :: st, w) Q := cf_w1 rfl
theorem r_P_known_28 {l0 l1 l2 l3 l4 : Option cf_AV} {i : Int32} {st : List cf_AV} {w : cf_Wd} {Q : cf_Rs → Prop} : cf_wp T_P_known (28, [l0, l1, l2, l3, l4], .inl i :: .inr 21 :: st, w) Q ↔ (cf_in i 600 = true ∧ cf_wp T_P_known (29, [l0, l1, l2, l3, l4], .inl (w 21 i.toNatClampNeg) :: st, w) Q) := cf_wg rfl
theorem r_P_known_29 {l0 l1 l2 l3 l4 : Option cf_AV} {st : List cf_AV} {w : cf_Wd} {Q : cf_Rs → Prop} : cf_wp T_P_known (29, [l0, l1, l2, l3, l4], st, w) Q ↔ cf_wp T_P_known (33, [l0, l1, l2, l3, l4], st, w) Q := cf_w1 rfl
theorem r_P_known_32 {l0 l1 l2 l4 : Option cf_AV} {x : Int32} {st : List cf_AV} {w : cf_Wd} {Q : cf_Rs → Prop} : cf_wp T_P_known (32, [l0, l1, l2, some (.inl x), l4], st, w) Q ↔ cf_wp T_P_known (33, [l0, l1, l2, some (.inl x), l4], .inl x :: st, w) Q := cf_w1 rfl
theorem r_P_known_33 {l0 l1 l2 l3 l4 : Option cf_AV} {x : Int32} {st : List cf_AV} {w : cf_Wd} {Q : cf_Rs → Prop} : cf_wp T_P_known (33, [l0, l1, l2, l3, l4], .inl x :: st, w) Q ↔ cf_wp T_P_known (34, [l0, l1, l2, some (.inl x), l4], st, w) Q := cf_w1 rfl
theorem r_P_known_34 {l0 l1 l2 l3 : Option cf_AV} {x : Int32} {st : List cf_AV} {w : cf_Wd} {Q : cf_Rs → Prop} : cf_wp T_P_known (34, [l0, l1, l2, l3, some (.inl x)], st, w) Q ↔ cf_wp T_P_known (37, [l0, l1, l2, l3, some (.inl (x + 1))], st, w) Q := cf_w1 rfl
theorem r_P_known_37 {l0 l1 l2 l3 l4 : Option cf_AV} {st : List cf_AV} {w : cf_Wd} {Q : cf_Rs → Prop} : cf_wp T_P_known (37, [l0, l1, l2, l3, l4], st, w) Q ↔ cf_wp T_P_known (5, [l0, l1, l2, l3, l4], st, w) Q := cf_w1 rfl
theorem r_P_known_40 {l0 l1 l2 l4 : Option cf_AV} {x : Int32} {st : List cf_AV} {w : cf_Wd} {Q : cf_Rs → Prop} : cf_wp T_P_known (40, [l0, l1, l2, some (.inl x), l4], st, w) Q ↔ cf_wp T_P_known (41, [l0, l1, l2, some (.inl x), l4], .inl x :: st, w) Q := cf_w1 rfl
theorem r_P_known_41 {l0 l1 l2 l3 l4 : Option cf_AV} {x : Int32} {w : cf_Wd} {P : Int32 → cf_Wd → Prop} : cf_wp T_P_known (41, [l0, l1, l2, l3, l4], [.inl x], w) (cf_qi P) ↔ P x w := Iff.trans (cf_wr (q := (some (.inl x), w)) rfl) Iff.rfl
theorem e_P_known {a1 a2 : Int32} {w : cf_Wd} {P : Int32 → cf_Wd → Prop} (h : cf_wp T_P_known (0, [some (.inr 15), some (.inl a1), some (.inl a2), none, none], [], w) (cf_qi P)) : ∃ x w1, F_P_known [.inr 15, .inl a1, .inl a2] w = some (some (.inl x), w1) ∧ P x w1 := cf_ei rfl (Nat.le_of_ble_eq_true rfl) h
noncomputable def T_P_ask (pc : Nat) : cf_Rw := bif Nat.ble pc 11 then
 (bif Nat.ble pc 3 then
  (bif Nat.ble pc 1 then
   (bif Nat.ble pc 0 then
    (bif Nat.beq pc 0 then cf_aload 0 1 else cf_stuck)
    else
    (bif Nat.beq pc 1 then cf_iload 1 2 else cf_stuck))
   else
   (bif Nat.ble pc 2 then
    (bif Nat.beq pc 2 then cf_aload 0 3 else cf_stuck)
    else
    (bif Nat.beq pc 3 then cf_get 5 11 6 else cf_stuck)))
  else
  (bif Nat.ble pc 9 then
   (bif Nat.ble pc 6 then
    (bif Nat.beq pc 6 then cf_call 3 F_P_known 9 else cf_stuck)
    else
    (bif Nat.beq pc 9 then cf_istore 2 10 else cf_stuck))
   else
   (bif Nat.ble pc 10 then
    (bif Nat.beq pc 10 then cf_aload 0 11 else cf_stuck)
    else
    (bif Nat.beq pc 11 then cf_iload 2 12 else cf_stuck))))
 else
 (bif Nat.ble pc 19 then
  (bif Nat.ble pc 15 then
   (bif Nat.ble pc 12 then
    (bif Nat.beq pc 12 then cf_ifne 19 15 else cf_stuck)
    else
    (bif Nat.beq pc 15 then cf_iload 1 16 else cf_stuck))
   else
   (bif Nat.ble pc 16 then
    (bif Nat.beq pc 16 then cf_goto 23 else cf_stuck)
    else
    (bif Nat.beq pc 19 then cf_aload 0 20 else cf_stuck)))
  else
  (bif Nat.ble pc 23 then
   (bif Nat.ble pc 20 then
    (bif Nat.beq pc 20 then cf_get 5 19 23 else cf_stuck)
    else
    (bif Nat.beq pc 23 then cf_put 5 19 26 else cf_stuck))
   else
   (bif Nat.ble pc 26 then
    (bif Nat.beq pc 26 then cf_iload 2 27 else cf_stuck)
    else
    (bif Nat.beq pc 27 then cf_iret else cf_stuck))))
noncomputable def F_P_ask : List cf_AV → cf_Wd → Option cf_Rs := cf_F T_P_ask 3 (some .int) (cf_shV 15 1)
theorem r_P_ask_0 {l1 l2 : Option cf_AV} {k : Nat} {st : List cf_AV} {w : cf_Wd} {Q : cf_Rs → Prop} : cf_wp T_P_ask (0, [some (.inr k), l1, l2], st, w) Q ↔ cf_wp T_P_ask (1, [some (.inr k), l1, l2], .inr k :: st, w) Q := cf_w1 rfl
theorem r_P_ask_1 {l0 l2 : Option cf_AV} {x : Int32} {st : List cf_AV} {w : cf_Wd} {Q : cf_Rs → Prop} : cf_wp T_P_ask (1, [l0, some (.inl x), l2], st, w) Q ↔ cf_wp T_P_ask (2, [l0, some (.inl x), l2], .inl x :: st, w) Q := cf_w1 rfl
theorem r_P_ask_2 {l1 l2 : Option cf_AV} {k : Nat} {st : List cf_AV} {w : cf_Wd} {Q : cf_Rs → Prop} : cf_wp T_P_ask (2, [some (.inr k), l1, l2], st, w) Q ↔ cf_wp T_P_ask (3, [some (.inr k), l1, l2], .inr k :: st, w) Q := cf_w1 rfl
theorem r_P_ask_3 {l0 l1 l2 : Option cf_AV} {st : List cf_AV} {w : cf_Wd} {Q : cf_Rs → Prop} : cf_wp T_P_ask (3, [l0, l1, l2], .inr 15 :: st, w) Q ↔ cf_wp T_P_ask (6, [l0, l1, l2], .inl (w 15 11) :: st, w) Q := cf_w1 rfl
theorem r_P_ask_6 {l0 l1 l2 : Option cf_AV} {a2 a1 : Int32} {w : cf_Wd} {Q : cf_Rs → Prop} : cf_wp T_P_ask (6, [l0, l1, l2], [.inl a2, .inl a1, .inr 15], w) Q ↔ ∃ x w1, F_P_known [.inr 15, .inl a1, .inl a2] w = some (some (.inl x), w1) ∧ cf_wp T_P_ask (9, [l0, l1, l2], [.inl x], w1) Q := cf_wci (n := 3) (F := F_P_known) (nx := 9) rfl rfl cf_F_i
theorem c_P_ask_6 {l0 l1 l2 : Option cf_AV} {a2 a1 : Int32} {x1 : Int32} {w1 : cf_Wd} {w : cf_Wd} {Q : cf_Rs → Prop} (hs : F_P_known [.inr 15, .inl a1, .inl a2] w = some (some (.inl x1), w1)) : cf_wp T_P_ask (6, [l0, l1, l2], [.inl a2, .inl a1, .inr 15], w) Q ↔ cf_wp T_P_ask (9, [l0, l1, l2], [.inl x1], w1) Q := r_P_ask_6.trans (cf_xi hs)
theorem r_P_ask_9 {l0 l1 l2 : Option cf_AV} {x : Int32} {st : List cf_AV} {w : cf_Wd} {Q : cf_Rs → Prop} : cf_wp T_P_ask (9, [l0, l1, l2], .inl x :: st, w) Q ↔ cf_wp T_P_ask (10, [l0, l1, some (.inl x)], st, w) Q := cf_w1 rfl
theorem r_P_ask_10 {l1 l2 : Option cf_AV} {k : Nat} {st : List cf_AV} {w : cf_Wd} {Q : cf_Rs → Prop} : cf_wp T_P_ask (10, [some (.inr k), l1, l2], st, w) Q ↔ cf_wp T_P_ask (11, [some (.inr k), l1, l2], .inr k :: st, w) Q := cf_w1 rfl
theorem r_P_ask_11 {l0 l1 : Option cf_AV} {x : Int32} {st : List cf_AV} {w : cf_Wd} {Q : cf_Rs → Prop} : cf_wp T_P_ask (11, [l0, l1, some (.inl x)], st, w) Q ↔ cf_wp T_P_ask (12, [l0, l1, some (.inl x)], .inl x :: st, w) Q := cf_w1 rfl
theorem r_P_ask_12 {l0 l1 l2 : Option cf_AV} {x : Int32} {st : List cf_AV} {w : cf_Wd} {Q : cf_Rs → Prop} : cf_wp T_P_ask (12, [l0, l1, l2], .inl x :: st, w) Q ↔ (if ¬ x = 0 then cf_wp T_P_ask (19, [l0, l1, l2], st, w) Q else cf_wp T_P_ask (15, [l0, l1, l2], st, w) Q) := cf_wi rfl
theorem r_P_ask_15 {l0 l2 : Option cf_AV} {x : Int32} {st : List cf_AV} {w : cf_Wd} {Q : cf_Rs → Prop} : cf_wp T_P_ask (15, [l0, some (.inl x), l2], st, w) Q ↔ cf_wp T_P_ask (16, [l0, some (.inl x), l2], .inl x :: st, w) Q := cf_w1 rfl
theorem r_P_ask_16 {l0 l1 l2 : Option cf_AV} {st : List cf_AV} {w : cf_Wd} {Q : cf_Rs → Prop} : cf_wp T_P_ask (16, [l0, l1, l2], st, w) Q ↔ cf_wp T_P_ask (23, [l0, l1, l2], st, w) Q := cf_w1 rfl
theorem r_P_ask_19 {l1 l2 : Option cf_AV} {k : Nat} {st : List cf_AV} {w : cf_Wd} {Q : cf_Rs → Prop} : cf_wp T_P_ask (19, [some (.inr k), l1, l2], st, w) Q ↔ cf_wp T_P_ask (20, [some (.inr k), l1, l2], .inr k :: st, w) Q := cf_w1 rfl
theorem r_P_ask_20 {l0 l1 l2 : Option cf_AV} {st : List cf_AV} {w : cf_Wd} {Q : cf_Rs → Prop} : cf_wp T_P_ask (20, [l0, l1, l2], .inr 15 :: st, w) Q ↔ cf_wp T_P_ask (23, [l0, l1, l2], .inl (w 15 19) :: st, w) Q := cf_w1 rfl
theorem r_P_ask_23 {l0 l1 l2 : Option cf_AV} {x : Int32} {st : List cf_AV} {w : cf_Wd} {Q : cf_Rs → Prop} : cf_wp T_P_ask (23, [l0, l1, l2], .inl x :: .inr 15 :: st, w) Q ↔ cf_wp T_P_ask (26, [l0, l1, l2], st, (cf_wa w 15 (upd (w 15) 19 x))) Q := cf_w1 rfl
theorem r_P_ask_26 {l0 l1 : Option cf_AV} {x : Int32} {st : List cf_AV} {w : cf_Wd} {Q : cf_Rs → Prop} : cf_wp T_P_ask (26, [l0, l1, some (.inl x)], st, w) Q ↔ cf_wp T_P_ask (27, [l0, l1, some (.inl x)], .inl x :: st, w) Q := cf_w1 rfl
theorem r_P_ask_27 {l0 l1 l2 : Option cf_AV} {x : Int32} {w : cf_Wd} {P : Int32 → cf_Wd → Prop} : cf_wp T_P_ask (27, [l0, l1, l2], [.inl x], w) (cf_qi P) ↔ P x w := Iff.trans (cf_wr (q := (some (.inl x), w)) rfl) Iff.rfl
theorem e_P_ask {a1 : Int32} {w : cf_Wd} {P : Int32 → cf_Wd → Prop} (h : cf_wp T_P_ask (0, [some (.inr 15), some (.inl a1), none], [], w) (cf_qi P)) : ∃ x w1, F_P_ask [.inr 15, .inl a1] w = some (some (.inl x), w1) ∧ P x w1 := cf_ei rfl (Nat.le_of_ble_eq_true rfl) h
noncomputable def T_P_ends (pc : Nat) : cf_Rw := bif Nat.ble pc 40 then
 (bif Nat.ble pc 19 then
  (bif Nat.ble pc 7 then
   (bif Nat.ble pc 2 then
    (bif Nat.ble pc 0 then
     (bif Nat.beq pc 0 then cf_aload 0 1 else cf_stuck)
     else
     (bif Nat.ble pc 1 then
      (bif Nat.beq pc 1 then cf_const 1 2 else cf_stuck)
      else
      (bif Nat.beq pc 2 then cf_put 5 18 5 else cf_stuck)))
    else
    (bif Nat.ble pc 5 then
     (bif Nat.beq pc 5 then cf_aload 0 6 else cf_stuck)
     else
     (bif Nat.ble pc 6 then
      (bif Nat.beq pc 6 then cf_aload 0 7 else cf_stuck)
      else
      (bif Nat.beq pc 7 then cf_get 5 7 10 else cf_stuck))))
   else
   (bif Nat.ble pc 14 then
    (bif Nat.ble pc 10 then
     (bif Nat.beq pc 10 then cf_call 2 F_P_ask 13 else cf_stuck)
     else
     (bif Nat.ble pc 13 then
      (bif Nat.beq pc 13 then cf_istore 1 14 else cf_stuck)
      else
      (bif Nat.beq pc 14 then cf_iload 1 15 else cf_stuck)))
    else
    (bif Nat.ble pc 15 then
     (bif Nat.beq pc 15 then cf_ifne 20 18 else cf_stuck)
     else
     (bif Nat.ble pc 18 then
      (bif Nat.beq pc 18 then cf_const 0 19 else cf_stuck)
      else
      (bif Nat.beq pc 19 then cf_iret else cf_stuck)))))
  else
  (bif Nat.ble pc 27 then
   (bif Nat.ble pc 22 then
    (bif Nat.ble pc 20 then
     (bif Nat.beq pc 20 then cf_aload 0 21 else cf_stuck)
     else
     (bif Nat.ble pc 21 then
      (bif Nat.beq pc 21 then cf_iload 1 22 else cf_stuck)
      else
      (bif Nat.beq pc 22 then cf_const 2 23 else cf_stuck)))
    else
    (bif Nat.ble pc 23 then
     (bif Nat.beq pc 23 then cf_icne 30 26 else cf_stuck)
     else
     (bif Nat.ble pc 26 then
      (bif Nat.beq pc 26 then cf_const 1 27 else cf_stuck)
      else
      (bif Nat.beq pc 27 then cf_goto 32 else cf_stuck))))
   else
   (bif Nat.ble pc 35 then
    (bif Nat.ble pc 30 then
     (bif Nat.beq pc 30 then cf_const 6 32 else cf_stuck)
     else
     (bif Nat.ble pc 32 then
      (bif Nat.beq pc 32 then cf_put 5 18 35 else cf_stuck)
      else
      (bif Nat.beq pc 35 then cf_iload 1 36 else cf_stuck)))
    else
    (bif Nat.ble pc 36 then
     (bif Nat.beq pc 36 then cf_const 2 37 else cf_stuck)
     else
     (bif Nat.ble pc 37 then
      (bif Nat.beq pc 37 then cf_iceq 42 40 else cf_stuck)
      else
      (bif Nat.beq pc 40 then cf_const 0 41 else cf_stuck))))))
 else
 (bif Nat.ble pc 58 then
  (bif Nat.ble pc 50 then
   (bif Nat.ble pc 43 then
    (bif Nat.ble pc 41 then
     (bif Nat.beq pc 41 then cf_iret else cf_stuck)
     else
     (bif Nat.ble pc 42 then
      (bif Nat.beq pc 42 then cf_aload 0 43 else cf_stuck)
      else
      (bif Nat.beq pc 43 then cf_aload 0 44 else cf_stuck)))
    else
    (bif Nat.ble pc 44 then
     (bif Nat.beq pc 44 then cf_get 5 6 47 else cf_stuck)
     else
     (bif Nat.ble pc 47 then
      (bif Nat.beq pc 47 then cf_call 2 F_P_ask 50 else cf_stuck)
      else
      (bif Nat.beq pc 50 then cf_istore 1 51 else cf_stuck))))
   else
   (bif Nat.ble pc 55 then
    (bif Nat.ble pc 51 then
     (bif Nat.beq pc 51 then cf_iload 1 52 else cf_stuck)
     else
     (bif Nat.ble pc 52 then
      (bif Nat.beq pc 52 then cf_ifne 57 55 else cf_stuck)
      else
      (bif Nat.beq pc 55 then cf_const 0 56 else cf_stuck)))
    else
    (bif Nat.ble pc 56 then
     (bif Nat.beq pc 56 then cf_iret else cf_stuck)
     else
     (bif Nat.ble pc 57 then
      (bif Nat.beq pc 57 then cf_aload 0 58 else cf_stuck)
      else
      (bif Nat.beq pc 58 then cf_iload 1 59 else cf_stuck)))))
  else
  (bif Nat.ble pc 69 then
   (bif Nat.ble pc 63 then
    (bif Nat.ble pc 59 then
     (bif Nat.beq pc 59 then cf_const 1 60 else cf_stuck)
     else
     (bif Nat.ble pc 60 then
      (bif Nat.beq pc 60 then cf_icne 67 63 else cf_stuck)
      else
      (bif Nat.beq pc 63 then cf_const 2 64 else cf_stuck)))
    else
    (bif Nat.ble pc 64 then
     (bif Nat.beq pc 64 then cf_goto 69 else cf_stuck)
     else
     (bif Nat.ble pc 67 then
      (bif Nat.beq pc 67 then cf_const 6 69 else cf_stuck)
      else
      (bif Nat.beq pc 69 then cf_put 5 18 72 else cf_stuck))))
   else
   (bif Nat.ble pc 74 then
    (bif Nat.ble pc 72 then
     (bif Nat.beq pc 72 then cf_iload 1 73 else cf_stuck)
     else
     (bif Nat.ble pc 73 then
      (bif Nat.beq pc 73 then cf_const 1 74 else cf_stuck)
      else
      (bif Nat.beq pc 74 then cf_icne 81 77 else cf_stuck)))
    else
    (bif Nat.ble pc 78 then
     (bif Nat.ble pc 77 then
      (bif Nat.beq pc 77 then cf_const 1 78 else cf_stuck)
      else
      (bif Nat.beq pc 78 then cf_goto 82 else cf_stuck))
     else
     (bif Nat.ble pc 81 then
      (bif Nat.beq pc 81 then cf_const 0 82 else cf_stuck)
      else
      (bif Nat.beq pc 82 then cf_iret else cf_stuck))))))
noncomputable def F_P_ends : List cf_AV → cf_Wd → Option cf_Rs := cf_F T_P_ends 2 (some .boolean) (cf_shV 15 0)
theorem r_P_ends_0 {l1 : Option cf_AV} {k : Nat} {st : List cf_AV} {w : cf_Wd} {Q : cf_Rs → Prop} : cf_wp T_P_ends (0, [some (.inr k), l1], st, w) Q ↔ cf_wp T_P_ends (1, [some (.inr k), l1], .inr k :: st, w) Q := cf_w1 rfl
theorem r_P_ends_1 {l0 l1 : Option cf_AV} {st : List cf_AV} {w : cf_Wd} {Q : cf_Rs → Prop} : cf_wp T_P_ends (1, [l0, l1], st, w) Q ↔ cf_wp T_P_ends (2, [l0, l1], .inl 1 :: st, w) Q := cf_w1 rfl
theorem r_P_ends_2 {l0 l1 : Option cf_AV} {x : Int32} {st : List cf_AV} {w : cf_Wd} {Q : cf_Rs → Prop} : cf_wp T_P_ends (2, [l0, l1], .inl x :: .inr 15 :: st, w) Q ↔ cf_wp T_P_ends (5, [l0, l1], st, (cf_wa w 15 (upd (w 15) 18 x))) Q := cf_w1 rfl
theorem r_P_ends_5 {l1 : Option cf_AV} {k : Nat} {st : List cf_AV} {w : cf_Wd} {Q : cf_Rs → Prop} : cf_wp T_P_ends (5, [some (.inr k), l1], st, w) Q ↔ cf_wp T_P_ends (6, [some (.inr k), l1], .inr k :: st, w) Q := cf_w1 rfl
theorem r_P_ends_6 {l1 : Option cf_AV} {k : Nat} {st : List cf_AV} {w : cf_Wd} {Q : cf_Rs → Prop} : cf_wp T_P_ends (6, [some (.inr k), l1], st, w) Q ↔ cf_wp T_P_ends (7, [some (.inr k), l1], .inr k :: st, w) Q := cf_w1 rfl
theorem r_P_ends_7 {l0 l1 : Option cf_AV} {st : List cf_AV} {w : cf_Wd} {Q : cf_Rs → Prop} : cf_wp T_P_ends (7, [l0, l1], .inr 15 :: st, w) Q ↔ cf_wp T_P_ends (10, [l0, l1], .inl (w 15 7) :: st, w) Q := cf_w1 rfl
theorem r_P_ends_10 {l0 l1 : Option cf_AV} {a1 : Int32} {w : cf_Wd} {Q : cf_Rs → Prop} : cf_wp T_P_ends (10, [l0, l1], [.inl a1, .inr 15], w) Q ↔ ∃ x w1, F_P_ask [.inr 15, .inl a1] w = some (some (.inl x), w1) ∧ cf_wp T_P_ends (13, [l0, l1], [.inl x], w1) Q := cf_wci (n := 2) (F := F_P_ask) (nx := 13) rfl rfl cf_F_i
theorem c_P_ends_10 {l0 l1 : Option cf_AV} {a1 : Int32} {x1 : Int32} {w1 : cf_Wd} {w : cf_Wd} {Q : cf_Rs → Prop} (hs : F_P_ask [.inr 15, .inl a1] w = some (some (.inl x1), w1)) : cf_wp T_P_ends (10, [l0, l1], [.inl a1, .inr 15], w) Q ↔ cf_wp T_P_ends (13, [l0, l1], [.inl x1], w1) Q := r_P_ends_10.trans (cf_xi hs)
theorem r_P_ends_13 {l0 l1 : Option cf_AV} {x : Int32} {st : List cf_AV} {w : cf_Wd} {Q : cf_Rs → Prop} : cf_wp T_P_ends (13, [l0, l1], .inl x :: st, w) Q ↔ cf_wp T_P_ends (14, [l0, some (.inl x)], st, w) Q := cf_w1 rfl
theorem r_P_ends_14 {l0 : Option cf_AV} {x : Int32} {st : List cf_AV} {w : cf_Wd} {Q : cf_Rs → Prop} : cf_wp T_P_ends (14, [l0, some (.inl x)], st, w) Q ↔ cf_wp T_P_ends (15, [l0, some (.inl x)], .inl x :: st, w) Q := cf_w1 rfl
theorem r_P_ends_15 {l0 l1 : Option cf_AV} {x : Int32} {st : List cf_AV} {w : cf_Wd} {Q : cf_Rs → Prop} : cf_wp T_P_ends (15, [l0, l1], .inl x :: st, w) Q ↔ (if ¬ x = 0 then cf_wp T_P_ends (20, [l0, l1], st, w) Q else cf_wp T_P_ends (18, [l0, l1], st, w) Q) := cf_wi rfl
theorem r_P_ends_18 {l0 l1 : Option cf_AV} {st : List cf_AV} {w : cf_Wd} {Q : cf_Rs → Prop} : cf_wp T_P_ends (18, [l0, l1], st, w) Q ↔ cf_wp T_P_ends (19, [l0, l1], .inl 0 :: st, w) Q := cf_w1 rfl
theorem r_P_ends_19 {l0 l1 : Option cf_AV} {x : Int32} {w : cf_Wd} {P : Int32 → cf_Wd → Prop} : cf_wp T_P_ends (19, [l0, l1], [.inl x], w) (cf_qb P) ↔ ((x = 0 ∨ x = 1) ∧ P x w) := Iff.trans (cf_wr (q := (some (.inl x), w)) rfl) Iff.rfl
theorem r_P_ends_20 {l1 : Option cf_AV} {k : Nat} {st : List cf_AV} {w : cf_Wd} {Q : cf_Rs → Prop} : cf_wp T_P_ends (20, [some (.inr k), l1], st, w) Q ↔ cf_wp T_P_ends (21, [some (.inr k), l1], .inr k :: st, w) Q := cf_w1 rfl
theorem r_P_ends_21 {l0 : Option cf_AV} {x : Int32} {st : List cf_AV} {w : cf_Wd} {Q : cf_Rs → Prop} : cf_wp T_P_ends (21, [l0, some (.inl x)], st, w) Q ↔ cf_wp T_P_ends (22, [l0, some (.inl x)], .inl x :: st, w) Q := cf_w1 rfl
theorem r_P_ends_22 {l0 l1 : Option cf_AV} {st : List cf_AV} {w : cf_Wd} {Q : cf_Rs → Prop} : cf_wp T_P_ends (22, [l0, l1], st, w) Q ↔ cf_wp T_P_ends (23, [l0, l1], .inl 2 :: st, w) Q := cf_w1 rfl
theorem r_P_ends_23 {l0 l1 : Option cf_AV} {x y : Int32} {st : List cf_AV} {w : cf_Wd} {Q : cf_Rs → Prop} : cf_wp T_P_ends (23, [l0, l1], .inl y :: .inl x :: st, w) Q ↔ (if ¬ x = y then cf_wp T_P_ends (30, [l0, l1], st, w) Q else cf_wp T_P_ends (26, [l0, l1], st, w) Q) := cf_wi rfl
theorem r_P_ends_26 {l0 l1 : Option cf_AV} {st : List cf_AV} {w : cf_Wd} {Q : cf_Rs → Prop} : cf_wp T_P_ends (26, [l0, l1], st, w) Q ↔ cf_wp T_P_ends (27, [l0, l1], .inl 1 :: st, w) Q := cf_w1 rfl
theorem r_P_ends_27 {l0 l1 : Option cf_AV} {st : List cf_AV} {w : cf_Wd} {Q : cf_Rs → Prop} : cf_wp T_P_ends (27, [l0, l1], st, w) Q ↔ cf_wp T_P_ends (32, [l0, l1], st, w) Q := cf_w1 rfl
theorem r_P_ends_30 {l0 l1 : Option cf_AV} {st : List cf_AV} {w : cf_Wd} {Q : cf_Rs → Prop} : cf_wp T_P_ends (30, [l0, l1], st, w) Q ↔ cf_wp T_P_ends (32, [l0, l1], .inl 6 :: st, w) Q := cf_w1 rfl
theorem r_P_ends_32 {l0 l1 : Option cf_AV} {x : Int32} {st : List cf_AV} {w : cf_Wd} {Q : cf_Rs → Prop} : cf_wp T_P_ends (32, [l0, l1], .inl x :: .inr 15 :: st, w) Q ↔ cf_wp T_P_ends (35, [l0, l1], st, (cf_wa w 15 (upd (w 15) 18 x))) Q := cf_w1 rfl
theorem r_P_ends_35 {l0 : Option cf_AV} {x : Int32} {st : List cf_AV} {w : cf_Wd} {Q : cf_Rs → Prop} : cf_wp T_P_ends (35, [l0, some (.inl x)], st, w) Q ↔ cf_wp T_P_ends (36, [l0, some (.inl x)], .inl x :: st, w) Q := cf_w1 rfl
theorem r_P_ends_36 {l0 l1 : Option cf_AV} {st : List cf_AV} {w : cf_Wd} {Q : cf_Rs → Prop} : cf_wp T_P_ends (36, [l0, l1], st, w) Q ↔ cf_wp T_P_ends (37, [l0, l1], .inl 2 :: st, w) Q := cf_w1 rfl
theorem r_P_ends_37 {l0 l1 : Option cf_AV} {x y : Int32} {st : List cf_AV} {w : cf_Wd} {Q : cf_Rs → Prop} : cf_wp T_P_ends (37, [l0, l1], .inl y :: .inl x :: st, w) Q ↔ (if x = y then cf_wp T_P_ends (42, [l0, l1], st, w) Q else cf_wp T_P_ends (40, [l0, l1], st, w) Q) := cf_wi rfl
theorem r_P_ends_40 {l0 l1 : Option cf_AV} {st : List cf_AV} {w : cf_Wd} {Q : cf_Rs → Prop} : cf_wp T_P_ends (40, [l0, l1], st, w) Q ↔ cf_wp T_P_ends (41, [l0, l1], .inl 0 :: st, w) Q := cf_w1 rfl
theorem r_P_ends_41 {l0 l1 : Option cf_AV} {x : Int32} {w : cf_Wd} {P : Int32 → cf_Wd → Prop} : cf_wp T_P_ends (41, [l0, l1], [.inl x], w) (cf_qb P) ↔ ((x = 0 ∨ x = 1) ∧ P x w) := Iff.trans (cf_wr (q := (some (.inl x), w)) rfl) Iff.rfl
theorem r_P_ends_42 {l1 : Option cf_AV} {k : Nat} {st : List cf_AV} {w : cf_Wd} {Q : cf_Rs → Prop} : cf_wp T_P_ends (42, [some (.inr k), l1], st, w) Q ↔ cf_wp T_P_ends (43, [some (.inr k), l1], .inr k :: st, w) Q := cf_w1 rfl
theorem r_P_ends_43 {l1 : Option cf_AV} {k : Nat} {st : List cf_AV} {w : cf_Wd} {Q : cf_Rs → Prop} : cf_wp T_P_ends (43, [some (.inr k), l1], st, w) Q ↔ cf_wp T_P_ends (44, [some (.inr k), l1], .inr k :: st, w) Q := cf_w1 rfl
theorem r_P_ends_44 {l0 l1 : Option cf_AV} {st : List cf_AV} {w : cf_Wd} {Q : cf_Rs → Prop} : cf_wp T_P_ends (44, [l0, l1], .inr 15 :: st, w) Q ↔ cf_wp T_P_ends (47, [l0, l1], .inl (w 15 6) :: st, w) Q := cf_w1 rfl
theorem r_P_ends_47 {l0 l1 : Option cf_AV} {a1 : Int32} {w : cf_Wd} {Q : cf_Rs → Prop} : cf_wp T_P_ends (47, [l0, l1], [.inl a1, .inr 15], w) Q ↔ ∃ x w1, F_P_ask [.inr 15, .inl a1] w = some (some (.inl x), w1) ∧ cf_wp T_P_ends (50, [l0, l1], [.inl x], w1) Q := cf_wci (n := 2) (F := F_P_ask) (nx := 50) rfl rfl cf_F_i
theorem c_P_ends_47 {l0 l1 : Option cf_AV} {a1 : Int32} {x1 : Int32} {w1 : cf_Wd} {w : cf_Wd} {Q : cf_Rs → Prop} (hs : F_P_ask [.inr 15, .inl a1] w = some (some (.inl x1), w1)) : cf_wp T_P_ends (47, [l0, l1], [.inl a1, .inr 15], w) Q ↔ cf_wp T_P_ends (50, [l0, l1], [.inl x1], w1) Q := r_P_ends_47.trans (cf_xi hs)
theorem r_P_ends_50 {l0 l1 : Option cf_AV} {x : Int32} {st : List cf_AV} {w : cf_Wd} {Q : cf_Rs → Prop} : cf_wp T_P_ends (50, [l0, l1], .inl x :: st, w) Q ↔ cf_wp T_P_ends (51, [l0, some (.inl x)], st, w) Q := cf_w1 rfl
theorem r_P_ends_51 {l0 : Option cf_AV} {x : Int32} {st : List cf_AV} {w : cf_Wd} {Q : cf_Rs → Prop} : cf_wp T_P_ends (51, [l0, some (.inl x)], st, w) Q ↔ cf_wp T_P_ends (52, [l0, some (.inl x)], .inl x :: st, w) Q := cf_w1 rfl
theorem r_P_ends_52 {l0 l1 : Option cf_AV} {x : Int32} {st : List cf_AV} {w : cf_Wd} {Q : cf_Rs → Prop} : cf_wp T_P_ends (52, [l0, l1], .inl x :: st, w) Q ↔ (if ¬ x = 0 then cf_wp T_P_ends (57, [l0, l1], st, w) Q else cf_wp T_P_ends (55, [l0, l1], st, w) Q) := cf_wi rfl
theorem r_P_ends_55 {l0 l1 : Option cf_AV} {st : List cf_AV} {w : cf_Wd} {Q : cf_Rs → Prop} : cf_wp T_P_ends (55, [l0, l1], st, w) Q ↔ cf_wp T_P_ends (56, [l0, l1], .inl 0 :: st, w) Q := cf_w1 rfl
theorem r_P_ends_56 {l0 l1 : Option cf_AV} {x : Int32} {w : cf_Wd} {P : Int32 → cf_Wd → Prop} : cf_wp T_P_ends (56, [l0, l1], [.inl x], w) (cf_qb P) ↔ ((x = 0 ∨ x = 1) ∧ P x w) := Iff.trans (cf_wr (q := (some (.inl x), w)) rfl) Iff.rfl
theorem r_P_ends_57 {l1 : Option cf_AV} {k : Nat} {st : List cf_AV} {w : cf_Wd} {Q : cf_Rs → Prop} : cf_wp T_P_ends (57, [some (.inr k), l1], st, w) Q ↔ cf_wp T_P_ends (58, [some (.inr k), l1], .inr k :: st, w) Q := cf_w1 rfl
theorem r_P_ends_58 {l0 : Option cf_AV} {x : Int32} {st : List cf_AV} {w : cf_Wd} {Q : cf_Rs → Prop} : cf_wp T_P_ends (58, [l0, some (.inl x)], st, w) Q ↔ cf_wp T_P_ends (59, [l0, some (.inl x)], .inl x :: st, w) Q := cf_w1 rfl
theorem r_P_ends_59 {l0 l1 : Option cf_AV} {st : List cf_AV} {w : cf_Wd} {Q : cf_Rs → Prop} : cf_wp T_P_ends (59, [l0, l1], st, w) Q ↔ cf_wp T_P_ends (60, [l0, l1], .inl 1 :: st, w) Q := cf_w1 rfl
theorem r_P_ends_60 {l0 l1 : Option cf_AV} {x y : Int32} {st : List cf_AV} {w : cf_Wd} {Q : cf_Rs → Prop} : cf_wp T_P_ends (60, [l0, l1], .inl y :: .inl x :: st, w) Q ↔ (if ¬ x = y then cf_wp T_P_ends (67, [l0, l1], st, w) Q else cf_wp T_P_ends (63, [l0, l1], st, w) Q) := cf_wi rfl
theorem r_P_ends_63 {l0 l1 : Option cf_AV} {st : List cf_AV} {w : cf_Wd} {Q : cf_Rs → Prop} : cf_wp T_P_ends (63, [l0, l1], st, w) Q ↔ cf_wp T_P_ends (64, [l0, l1], .inl 2 :: st, w) Q := cf_w1 rfl
theorem r_P_ends_64 {l0 l1 : Option cf_AV} {st : List cf_AV} {w : cf_Wd} {Q : cf_Rs → Prop} : cf_wp T_P_ends (64, [l0, l1], st, w) Q ↔ cf_wp T_P_ends (69, [l0, l1], st, w) Q := cf_w1 rfl
theorem r_P_ends_67 {l0 l1 : Option cf_AV} {st : List cf_AV} {w : cf_Wd} {Q : cf_Rs → Prop} : cf_wp T_P_ends (67, [l0, l1], st, w) Q ↔ cf_wp T_P_ends (69, [l0, l1], .inl 6 :: st, w) Q := cf_w1 rfl
theorem r_P_ends_69 {l0 l1 : Option cf_AV} {x : Int32} {st : List cf_AV} {w : cf_Wd} {Q : cf_Rs → Prop} : cf_wp T_P_ends (69, [l0, l1], .inl x :: .inr 15 :: st, w) Q ↔ cf_wp T_P_ends (72, [l0, l1], st, (cf_wa w 15 (upd (w 15) 18 x))) Q := cf_w1 rfl
theorem r_P_ends_72 {l0 : Option cf_AV} {x : Int32} {st : List cf_AV} {w : cf_Wd} {Q : cf_Rs → Prop} : cf_wp T_P_ends (72, [l0, some (.inl x)], st, w) Q ↔ cf_wp T_P_ends (73, [l0, some (.inl x)], .inl x :: st, w) Q := cf_w1 rfl
theorem r_P_ends_73 {l0 l1 : Option cf_AV} {st : List cf_AV} {w : cf_Wd} {Q : cf_Rs → Prop} : cf_wp T_P_ends (73, [l0, l1], st, w) Q ↔ cf_wp T_P_ends (74, [l0, l1], .inl 1 :: st, w) Q := cf_w1 rfl
theorem r_P_ends_74 {l0 l1 : Option cf_AV} {x y : Int32} {st : List cf_AV} {w : cf_Wd} {Q : cf_Rs → Prop} : cf_wp T_P_ends (74, [l0, l1], .inl y :: .inl x :: st, w) Q ↔ (if ¬ x = y then cf_wp T_P_ends (81, [l0, l1], st, w) Q else cf_wp T_P_ends (77, [l0, l1], st, w) Q) := cf_wi rfl
theorem r_P_ends_77 {l0 l1 : Option cf_AV} {st : List cf_AV} {w : cf_Wd} {Q : cf_Rs → Prop} : cf_wp T_P_ends (77, [l0, l1], st, w) Q ↔ cf_wp T_P_ends (78, [l0, l1], .inl 1 :: st, w) Q := cf_w1 rfl
theorem r_P_ends_78 {l0 l1 : Option cf_AV} {st : List cf_AV} {w : cf_Wd} {Q : cf_Rs → Prop} : cf_wp T_P_ends (78, [l0, l1], st, w) Q ↔ cf_wp T_P_ends (82, [l0, l1], st, w) Q := cf_w1 rfl
theorem r_P_ends_81 {l0 l1 : Option cf_AV} {st : List cf_AV} {w : cf_Wd} {Q : cf_Rs → Prop} : cf_wp T_P_ends (81, [l0, l1], st, w) Q ↔ cf_wp T_P_ends (82, [l0, l1], .inl 0 :: st, w) Q := cf_w1 rfl
theorem r_P_ends_82 {l0 l1 : Option cf_AV} {x : Int32} {w : cf_Wd} {P : Int32 → cf_Wd → Prop} : cf_wp T_P_ends (82, [l0, l1], [.inl x], w) (cf_qb P) ↔ ((x = 0 ∨ x = 1) ∧ P x w) := Iff.trans (cf_wr (q := (some (.inl x), w)) rfl) Iff.rfl
theorem e_P_ends {w : cf_Wd} {P : Int32 → cf_Wd → Prop} (h : cf_wp T_P_ends (0, [some (.inr 15), none], [], w) (cf_qb P)) : ∃ x w1, F_P_ends [.inr 15] w = some (some (.inl x), w1) ∧ P x w1 := cf_eb rfl (Nat.le_of_ble_eq_true rfl) h
noncomputable def T_P_weightOf (pc : Nat) : cf_Rw := bif Nat.ble pc 12 then
 (bif Nat.ble pc 5 then
  (bif Nat.ble pc 1 then
   (bif Nat.ble pc 0 then
    (bif Nat.beq pc 0 then cf_aload 0 1 else cf_stuck)
    else
    (bif Nat.beq pc 1 then cf_get 5 20 4 else cf_stuck))
   else
   (bif Nat.ble pc 4 then
    (bif Nat.beq pc 4 then cf_iload 1 5 else cf_stuck)
    else
    (bif Nat.beq pc 5 then cf_bin (fun x y => x >>> (y &&& 31)) 6 else cf_stuck)))
  else
  (bif Nat.ble pc 7 then
   (bif Nat.ble pc 6 then
    (bif Nat.beq pc 6 then cf_const 1 7 else cf_stuck)
    else
    (bif Nat.beq pc 7 then cf_bin (fun x y => x &&& y) 8 else cf_stuck))
   else
   (bif Nat.ble pc 8 then
    (bif Nat.beq pc 8 then cf_ifne 15 11 else cf_stuck)
    else
    (bif Nat.ble pc 11 then
     (bif Nat.beq pc 11 then cf_const 0 12 else cf_stuck)
     else
     (bif Nat.beq pc 12 then cf_goto 29 else cf_stuck)))))
 else
 (bif Nat.ble pc 20 then
  (bif Nat.ble pc 16 then
   (bif Nat.ble pc 15 then
    (bif Nat.beq pc 15 then cf_aload 0 16 else cf_stuck)
    else
    (bif Nat.beq pc 16 then cf_get 5 4 19 else cf_stuck))
   else
   (bif Nat.ble pc 19 then
    (bif Nat.beq pc 19 then cf_iload 1 20 else cf_stuck)
    else
    (bif Nat.beq pc 20 then cf_iald 21 else cf_stuck)))
  else
  (bif Nat.ble pc 22 then
   (bif Nat.ble pc 21 then
    (bif Nat.beq pc 21 then cf_aload 0 22 else cf_stuck)
    else
    (bif Nat.beq pc 22 then cf_get 5 20 25 else cf_stuck))
   else
   (bif Nat.ble pc 25 then
    (bif Nat.beq pc 25 then cf_bin (fun x y => x &&& y) 26 else cf_stuck)
    else
    (bif Nat.ble pc 26 then
     (bif Nat.beq pc 26 then cf_call 1 F_P_bits 29 else cf_stuck)
     else
     (bif Nat.beq pc 29 then cf_iret else cf_stuck)))))
noncomputable def F_P_weightOf : List cf_AV → cf_Wd → Option cf_Rs := cf_F T_P_weightOf 2 (some .int) (cf_shV 15 1)
theorem r_P_weightOf_0 {l1 : Option cf_AV} {k : Nat} {st : List cf_AV} {w : cf_Wd} {Q : cf_Rs → Prop} : cf_wp T_P_weightOf (0, [some (.inr k), l1], st, w) Q ↔ cf_wp T_P_weightOf (1, [some (.inr k), l1], .inr k :: st, w) Q := cf_w1 rfl
theorem r_P_weightOf_1 {l0 l1 : Option cf_AV} {st : List cf_AV} {w : cf_Wd} {Q : cf_Rs → Prop} : cf_wp T_P_weightOf (1, [l0, l1], .inr 15 :: st, w) Q ↔ cf_wp T_P_weightOf (4, [l0, l1], .inl (w 15 20) :: st, w) Q := cf_w1 rfl
theorem r_P_weightOf_4 {l0 : Option cf_AV} {x : Int32} {st : List cf_AV} {w : cf_Wd} {Q : cf_Rs → Prop} : cf_wp T_P_weightOf (4, [l0, some (.inl x)], st, w) Q ↔ cf_wp T_P_weightOf (5, [l0, some (.inl x)], .inl x :: st, w) Q := cf_w1 rfl
theorem r_P_weightOf_5 {l0 l1 : Option cf_AV} {x y : Int32} {st : List cf_AV} {w : cf_Wd} {Q : cf_Rs → Prop} : cf_wp T_P_weightOf (5, [l0, l1], .inl y :: .inl x :: st, w) Q ↔ cf_wp T_P_weightOf (6, [l0, l1], .inl (x >>> (y &&& 31)) :: st, w) Q := cf_w1 rfl
theorem r_P_weightOf_6 {l0 l1 : Option cf_AV} {st : List cf_AV} {w : cf_Wd} {Q : cf_Rs → Prop} : cf_wp T_P_weightOf (6, [l0, l1], st, w) Q ↔ cf_wp T_P_weightOf (7, [l0, l1], .inl 1 :: st, w) Q := cf_w1 rfl
theorem r_P_weightOf_7 {l0 l1 : Option cf_AV} {x y : Int32} {st : List cf_AV} {w : cf_Wd} {Q : cf_Rs → Prop} : cf_wp T_P_weightOf (7, [l0, l1], .inl y :: .inl x :: st, w) Q ↔ cf_wp T_P_weightOf (8, [l0, l1], .inl (x &&& y) :: st, w) Q := cf_w1 rfl
theorem r_P_weightOf_8 {l0 l1 : Option cf_AV} {x : Int32} {st : List cf_AV} {w : cf_Wd} {Q : cf_Rs → Prop} : cf_wp T_P_weightOf (8, [l0, l1], .inl x :: st, w) Q ↔ (if ¬ x = 0 then cf_wp T_P_weightOf (15, [l0, l1], st, w) Q else cf_wp T_P_weightOf (11, [l0, l1], st, w) Q) := cf_wi rfl
theorem r_P_weightOf_11 {l0 l1 : Option cf_AV} {st : List cf_AV} {w : cf_Wd} {Q : cf_Rs → Prop} : cf_wp T_P_weightOf (11, [l0, l1], st, w) Q ↔ cf_wp T_P_weightOf (12, [l0, l1], .inl 0 :: st, w) Q := cf_w1 rfl
theorem r_P_weightOf_12 {l0 l1 : Option cf_AV} {st : List cf_AV} {w : cf_Wd} {Q : cf_Rs → Prop} : cf_wp T_P_weightOf (12, [l0, l1], st, w) Q ↔ cf_wp T_P_weightOf (29, [l0, l1], st, w) Q := cf_w1 rfl
theorem r_P_weightOf_15 {l1 : Option cf_AV} {k : Nat} {st : List cf_AV} {w : cf_Wd} {Q : cf_Rs → Prop} : cf_wp T_P_weightOf (15, [some (.inr k), l1], st, w) Q ↔ cf_wp T_P_weightOf (16, [some (.inr k), l1], .inr k :: st, w) Q := cf_w1 rfl
theorem r_P_weightOf_16 {l0 l1 : Option cf_AV} {st : List cf_AV} {w : cf_Wd} {Q : cf_Rs → Prop} : cf_wp T_P_weightOf (16, [l0, l1], .inr 15 :: st, w) Q ↔ cf_wp T_P_weightOf (19, [l0, l1], .inr 19 :: st, w) Q := cf_w1 rfl
theorem r_P_weightOf_19 {l0 : Option cf_AV} {x : Int32} {st : List cf_AV} {w : cf_Wd} {Q : cf_Rs → Prop} : cf_wp T_P_weightOf (19, [l0, some (.inl x)], st, w) Q ↔ cf_wp T_P_weightOf (20, [l0, some (.inl x)], .inl x :: st, w) Q := cf_w1 rfl
theorem r_P_weightOf_20 {l0 l1 : Option cf_AV} {i : Int32} {st : List cf_AV} {w : cf_Wd} {Q : cf_Rs → Prop} : cf_wp T_P_weightOf (20, [l0, l1], .inl i :: .inr 19 :: st, w) Q ↔ (cf_in i 14 = true ∧ cf_wp T_P_weightOf (21, [l0, l1], .inl (w 19 i.toNatClampNeg) :: st, w) Q) := cf_wg rfl
theorem r_P_weightOf_21 {l1 : Option cf_AV} {k : Nat} {st : List cf_AV} {w : cf_Wd} {Q : cf_Rs → Prop} : cf_wp T_P_weightOf (21, [some (.inr k), l1], st, w) Q ↔ cf_wp T_P_weightOf (22, [some (.inr k), l1], .inr k :: st, w) Q := cf_w1 rfl
theorem r_P_weightOf_22 {l0 l1 : Option cf_AV} {st : List cf_AV} {w : cf_Wd} {Q : cf_Rs → Prop} : cf_wp T_P_weightOf (22, [l0, l1], .inr 15 :: st, w) Q ↔ cf_wp T_P_weightOf (25, [l0, l1], .inl (w 15 20) :: st, w) Q := cf_w1 rfl
theorem r_P_weightOf_25 {l0 l1 : Option cf_AV} {x y : Int32} {st : List cf_AV} {w : cf_Wd} {Q : cf_Rs → Prop} : cf_wp T_P_weightOf (25, [l0, l1], .inl y :: .inl x :: st, w) Q ↔ cf_wp T_P_weightOf (26, [l0, l1], .inl (x &&& y) :: st, w) Q := cf_w1 rfl
theorem r_P_weightOf_26 {l0 l1 : Option cf_AV} {a0 : Int32} {w : cf_Wd} {Q : cf_Rs → Prop} : cf_wp T_P_weightOf (26, [l0, l1], [.inl a0], w) Q ↔ ∃ x w1, F_P_bits [.inl a0] w = some (some (.inl x), w1) ∧ cf_wp T_P_weightOf (29, [l0, l1], [.inl x], w1) Q := cf_wci (n := 1) (F := F_P_bits) (nx := 29) rfl rfl cf_F_i
theorem c_P_weightOf_26 {l0 l1 : Option cf_AV} {a0 : Int32} {x1 : Int32} {w1 : cf_Wd} {w : cf_Wd} {Q : cf_Rs → Prop} (hs : F_P_bits [.inl a0] w = some (some (.inl x1), w1)) : cf_wp T_P_weightOf (26, [l0, l1], [.inl a0], w) Q ↔ cf_wp T_P_weightOf (29, [l0, l1], [.inl x1], w1) Q := r_P_weightOf_26.trans (cf_xi hs)
theorem r_P_weightOf_29 {l0 l1 : Option cf_AV} {x : Int32} {w : cf_Wd} {P : Int32 → cf_Wd → Prop} : cf_wp T_P_weightOf (29, [l0, l1], [.inl x], w) (cf_qi P) ↔ P x w := Iff.trans (cf_wr (q := (some (.inl x), w)) rfl) Iff.rfl
theorem e_P_weightOf {a1 : Int32} {w : cf_Wd} {P : Int32 → cf_Wd → Prop} (h : cf_wp T_P_weightOf (0, [some (.inr 15), some (.inl a1)], [], w) (cf_qi P)) : ∃ x w1, F_P_weightOf [.inr 15, .inl a1] w = some (some (.inl x), w1) ∧ P x w1 := cf_ei rfl (Nat.le_of_ble_eq_true rfl) h
noncomputable def T_P_middle (pc : Nat) : cf_Rw := bif Nat.ble pc 65 then
 (bif Nat.ble pc 30 then
  (bif Nat.ble pc 14 then
   (bif Nat.ble pc 3 then
    (bif Nat.ble pc 1 then
     (bif Nat.ble pc 0 then
      (bif Nat.beq pc 0 then cf_const (-1) 1 else cf_stuck)
      else
      (bif Nat.beq pc 1 then cf_istore 3 2 else cf_stuck))
     else
     (bif Nat.ble pc 2 then
      (bif Nat.beq pc 2 then cf_aload 0 3 else cf_stuck)
      else
      (bif Nat.beq pc 3 then cf_get 5 20 6 else cf_stuck)))
    else
    (bif Nat.ble pc 9 then
     (bif Nat.ble pc 6 then
      (bif Nat.beq pc 6 then cf_call 1 F_P_bits 9 else cf_stuck)
      else
      (bif Nat.beq pc 9 then cf_istore 4 11 else cf_stuck))
     else
     (bif Nat.ble pc 11 then
      (bif Nat.beq pc 11 then cf_const (-1) 12 else cf_stuck)
      else
      (bif Nat.ble pc 12 then
       (bif Nat.beq pc 12 then cf_istore 5 14 else cf_stuck)
       else
       (bif Nat.beq pc 14 then cf_aload 0 15 else cf_stuck)))))
   else
   (bif Nat.ble pc 20 then
    (bif Nat.ble pc 18 then
     (bif Nat.ble pc 15 then
      (bif Nat.beq pc 15 then cf_get 5 0 18 else cf_stuck)
      else
      (bif Nat.beq pc 18 then cf_const 1 19 else cf_stuck))
     else
     (bif Nat.ble pc 19 then
      (bif Nat.beq pc 19 then cf_bin (fun x y => x - y) 20 else cf_stuck)
      else
      (bif Nat.beq pc 20 then cf_istore 6 22 else cf_stuck)))
    else
    (bif Nat.ble pc 24 then
     (bif Nat.ble pc 22 then
      (bif Nat.beq pc 22 then cf_iload 6 24 else cf_stuck)
      else
      (bif Nat.beq pc 24 then cf_iflt 138 27 else cf_stuck))
     else
     (bif Nat.ble pc 27 then
      (bif Nat.beq pc 27 then cf_aload 0 28 else cf_stuck)
      else
      (bif Nat.ble pc 28 then
       (bif Nat.beq pc 28 then cf_iload 6 30 else cf_stuck)
       else
       (bif Nat.beq pc 30 then cf_call 2 F_P_weightOf 33 else cf_stuck))))))
  else
  (bif Nat.ble pc 50 then
   (bif Nat.ble pc 39 then
    (bif Nat.ble pc 35 then
     (bif Nat.ble pc 33 then
      (bif Nat.beq pc 33 then cf_istore 7 35 else cf_stuck)
      else
      (bif Nat.beq pc 35 then cf_iload 7 37 else cf_stuck))
     else
     (bif Nat.ble pc 37 then
      (bif Nat.beq pc 37 then cf_iload 4 39 else cf_stuck)
      else
      (bif Nat.beq pc 39 then cf_iload 7 41 else cf_stuck)))
    else
    (bif Nat.ble pc 42 then
     (bif Nat.ble pc 41 then
      (bif Nat.beq pc 41 then cf_bin (fun x y => x - y) 42 else cf_stuck)
      else
      (bif Nat.beq pc 42 then cf_icge 50 45 else cf_stuck))
     else
     (bif Nat.ble pc 45 then
      (bif Nat.beq pc 45 then cf_iload 7 47 else cf_stuck)
      else
      (bif Nat.ble pc 47 then
       (bif Nat.beq pc 47 then cf_goto 55 else cf_stuck)
       else
       (bif Nat.beq pc 50 then cf_iload 4 52 else cf_stuck)))))
   else
   (bif Nat.ble pc 57 then
    (bif Nat.ble pc 54 then
     (bif Nat.ble pc 52 then
      (bif Nat.beq pc 52 then cf_iload 7 54 else cf_stuck)
      else
      (bif Nat.beq pc 54 then cf_bin (fun x y => x - y) 55 else cf_stuck))
     else
     (bif Nat.ble pc 55 then
      (bif Nat.beq pc 55 then cf_istore 8 57 else cf_stuck)
      else
      (bif Nat.beq pc 57 then cf_aload 0 58 else cf_stuck)))
    else
    (bif Nat.ble pc 61 then
     (bif Nat.ble pc 58 then
      (bif Nat.beq pc 58 then cf_get 5 20 61 else cf_stuck)
      else
      (bif Nat.beq pc 61 then cf_iload 6 63 else cf_stuck))
     else
     (bif Nat.ble pc 63 then
      (bif Nat.beq pc 63 then cf_bin (fun x y => x >>> (y &&& 31)) 64 else cf_stuck)
      else
      (bif Nat.ble pc 64 then
       (bif Nat.beq pc 64 then cf_const 1 65 else cf_stuck)
       else
       (bif Nat.beq pc 65 then cf_bin (fun x y => x &&& y) 66 else cf_stuck)))))))
 else
 (bif Nat.ble pc 97 then
  (bif Nat.ble pc 80 then
   (bif Nat.ble pc 72 then
    (bif Nat.ble pc 67 then
     (bif Nat.ble pc 66 then
      (bif Nat.beq pc 66 then cf_const 1 67 else cf_stuck)
      else
      (bif Nat.beq pc 67 then cf_icne 89 70 else cf_stuck))
     else
     (bif Nat.ble pc 70 then
      (bif Nat.beq pc 70 then cf_iload 6 72 else cf_stuck)
      else
      (bif Nat.beq pc 72 then cf_iload 1 73 else cf_stuck)))
    else
    (bif Nat.ble pc 76 then
     (bif Nat.ble pc 73 then
      (bif Nat.beq pc 73 then cf_iceq 89 76 else cf_stuck)
      else
      (bif Nat.beq pc 76 then cf_iload 2 77 else cf_stuck))
     else
     (bif Nat.ble pc 77 then
      (bif Nat.beq pc 77 then cf_iload 6 79 else cf_stuck)
      else
      (bif Nat.ble pc 79 then
       (bif Nat.beq pc 79 then cf_bin (fun x y => x >>> (y &&& 31)) 80 else cf_stuck)
       else
       (bif Nat.beq pc 80 then cf_const 1 81 else cf_stuck)))))
   else
   (bif Nat.ble pc 86 then
    (bif Nat.ble pc 82 then
     (bif Nat.ble pc 81 then
      (bif Nat.beq pc 81 then cf_bin (fun x y => x &&& y) 82 else cf_stuck)
      else
      (bif Nat.beq pc 82 then cf_ifne 89 85 else cf_stuck))
     else
     (bif Nat.ble pc 85 then
      (bif Nat.beq pc 85 then cf_const 1 86 else cf_stuck)
      else
      (bif Nat.beq pc 86 then cf_goto 90 else cf_stuck)))
    else
    (bif Nat.ble pc 90 then
     (bif Nat.ble pc 89 then
      (bif Nat.beq pc 89 then cf_const 0 90 else cf_stuck)
      else
      (bif Nat.beq pc 90 then cf_istore 9 92 else cf_stuck))
     else
     (bif Nat.ble pc 92 then
      (bif Nat.beq pc 92 then cf_iload 9 94 else cf_stuck)
      else
      (bif Nat.ble pc 94 then
       (bif Nat.beq pc 94 then cf_ifeq 109 97 else cf_stuck)
       else
       (bif Nat.beq pc 97 then cf_iload 8 99 else cf_stuck))))))
  else
  (bif Nat.ble pc 116 then
   (bif Nat.ble pc 106 then
    (bif Nat.ble pc 101 then
     (bif Nat.ble pc 99 then
      (bif Nat.beq pc 99 then cf_iload 5 101 else cf_stuck)
      else
      (bif Nat.beq pc 101 then cf_iclt 109 104 else cf_stuck))
     else
     (bif Nat.ble pc 104 then
      (bif Nat.beq pc 104 then cf_iload 6 106 else cf_stuck)
      else
      (bif Nat.beq pc 106 then cf_goto 110 else cf_stuck)))
    else
    (bif Nat.ble pc 110 then
     (bif Nat.ble pc 109 then
      (bif Nat.beq pc 109 then cf_iload 3 110 else cf_stuck)
      else
      (bif Nat.beq pc 110 then cf_istore 3 111 else cf_stuck))
     else
     (bif Nat.ble pc 111 then
      (bif Nat.beq pc 111 then cf_iload 9 113 else cf_stuck)
      else
      (bif Nat.ble pc 113 then
       (bif Nat.beq pc 113 then cf_ifeq 128 116 else cf_stuck)
       else
       (bif Nat.beq pc 116 then cf_iload 8 118 else cf_stuck)))))
   else
   (bif Nat.ble pc 128 then
    (bif Nat.ble pc 120 then
     (bif Nat.ble pc 118 then
      (bif Nat.beq pc 118 then cf_iload 5 120 else cf_stuck)
      else
      (bif Nat.beq pc 120 then cf_icle 128 123 else cf_stuck))
     else
     (bif Nat.ble pc 123 then
      (bif Nat.beq pc 123 then cf_iload 8 125 else cf_stuck)
      else
      (bif Nat.ble pc 125 then
       (bif Nat.beq pc 125 then cf_goto 130 else cf_stuck)
       else
       (bif Nat.beq pc 128 then cf_iload 5 130 else cf_stuck))))
    else
    (bif Nat.ble pc 132 then
     (bif Nat.ble pc 130 then
      (bif Nat.beq pc 130 then cf_istore 5 132 else cf_stuck)
      else
      (bif Nat.beq pc 132 then cf_iinc 6 (-1) 135 else cf_stuck))
     else
     (bif Nat.ble pc 135 then
      (bif Nat.beq pc 135 then cf_goto 22 else cf_stuck)
      else
      (bif Nat.ble pc 138 then
       (bif Nat.beq pc 138 then cf_iload 3 139 else cf_stuck)
       else
       (bif Nat.beq pc 139 then cf_iret else cf_stuck)))))))
noncomputable def F_P_middle : List cf_AV → cf_Wd → Option cf_Rs := cf_F T_P_middle 10 (some .int) (cf_shV 15 2)
theorem r_P_middle_0 {l0 l1 l2 l3 l4 l5 l6 l7 l8 l9 : Option cf_AV} {st : List cf_AV} {w : cf_Wd} {Q : cf_Rs → Prop} : cf_wp T_P_middle (0, [l0, l1, l2, l3, l4, l5, l6, l7, l8, l9], st, w) Q ↔ cf_wp T_P_middle (1, [l0, l1, l2, l3, l4, l5, l6, l7, l8, l9], .inl (-1) :: st, w) Q := cf_w1 rfl
theorem r_P_middle_1 {l0 l1 l2 l3 l4 l5 l6 l7 l8 l9 : Option cf_AV} {x : Int32} {st : List cf_AV} {w : cf_Wd} {Q : cf_Rs → Prop} : cf_wp T_P_middle (1, [l0, l1, l2, l3, l4, l5, l6, l7, l8, l9], .inl x :: st, w) Q ↔ cf_wp T_P_middle (2, [l0, l1, l2, some (.inl x), l4, l5, l6, l7, l8, l9], st, w) Q := cf_w1 rfl
theorem r_P_middle_2 {l1 l2 l3 l4 l5 l6 l7 l8 l9 : Option cf_AV} {k : Nat} {st : List cf_AV} {w : cf_Wd} {Q : cf_Rs → Prop} : cf_wp T_P_middle (2, [some (.inr k), l1, l2, l3, l4, l5, l6, l7, l8, l9], st, w) Q ↔ cf_wp T_P_middle (3, [some (.inr k), l1, l2, l3, l4, l5, l6, l7, l8, l9], .inr k :: st, w) Q := cf_w1 rfl
theorem r_P_middle_3 {l0 l1 l2 l3 l4 l5 l6 l7 l8 l9 : Option cf_AV} {st : List cf_AV} {w : cf_Wd} {Q : cf_Rs → Prop} : cf_wp T_P_middle (3, [l0, l1, l2, l3, l4, l5, l6, l7, l8, l9], .inr 15 :: st, w) Q ↔ cf_wp T_P_middle (6, [l0, l1, l2, l3, l4, l5, l6, l7, l8, l9], .inl (w 15 20) :: st, w) Q := cf_w1 rfl
theorem r_P_middle_6 {l0 l1 l2 l3 l4 l5 l6 l7 l8 l9 : Option cf_AV} {a0 : Int32} {w : cf_Wd} {Q : cf_Rs → Prop} : cf_wp T_P_middle (6, [l0, l1, l2, l3, l4, l5, l6, l7, l8, l9], [.inl a0], w) Q ↔ ∃ x w1, F_P_bits [.inl a0] w = some (some (.inl x), w1) ∧ cf_wp T_P_middle (9, [l0, l1, l2, l3, l4, l5, l6, l7, l8, l9], [.inl x], w1) Q := cf_wci (n := 1) (F := F_P_bits) (nx := 9) rfl rfl cf_F_i
theorem c_P_middle_6 {l0 l1 l2 l3 l4 l5 l6 l7 l8 l9 : Option cf_AV} {a0 : Int32} {x1 : Int32} {w1 : cf_Wd} {w : cf_Wd} {Q : cf_Rs → Prop} (hs : F_P_bits [.inl a0] w = some (some (.inl x1), w1)) : cf_wp T_P_middle (6, [l0, l1, l2, l3, l4, l5, l6, l7, l8, l9], [.inl a0], w) Q ↔ cf_wp T_P_middle (9, [l0, l1, l2, l3, l4, l5, l6, l7, l8, l9], [.inl x1], w1) Q := r_P_middle_6.trans (cf_xi hs)
theorem r_P_middle_9 {l0 l1 l2 l3 l4 l5 l6 l7 l8 l9 : Option cf_AV} {x : Int32} {st : List cf_AV} {w : cf_Wd} {Q : cf_Rs → Prop} : cf_wp T_P_middle (9, [l0, l1, l2, l3, l4, l5, l6, l7, l8, l9], .inl x :: st, w) Q ↔ cf_wp T_P_middle (11, [l0, l1, l2, l3, some (.inl x), l5, l6, l7, l8, l9], st, w) Q := cf_w1 rfl
theorem r_P_middle_11 {l0 l1 l2 l3 l4 l5 l6 l7 l8 l9 : Option cf_AV} {st : List cf_AV} {w : cf_Wd} {Q : cf_Rs → Prop} : cf_wp T_P_middle (11, [l0, l1, l2, l3, l4, l5, l6, l7, l8, l9], st, w) Q ↔ cf_wp T_P_middle (12, [l0, l1, l2, l3, l4, l5, l6, l7, l8, l9], .inl (-1) :: st, w) Q := cf_w1 rfl
theorem r_P_middle_12 {l0 l1 l2 l3 l4 l5 l6 l7 l8 l9 : Option cf_AV} {x : Int32} {st : List cf_AV} {w : cf_Wd} {Q : cf_Rs → Prop} : cf_wp T_P_middle (12, [l0, l1, l2, l3, l4, l5, l6, l7, l8, l9], .inl x :: st, w) Q ↔ cf_wp T_P_middle (14, [l0, l1, l2, l3, l4, some (.inl x), l6, l7, l8, l9], st, w) Q := cf_w1 rfl
theorem r_P_middle_14 {l1 l2 l3 l4 l5 l6 l7 l8 l9 : Option cf_AV} {k : Nat} {st : List cf_AV} {w : cf_Wd} {Q : cf_Rs → Prop} : cf_wp T_P_middle (14, [some (.inr k), l1, l2, l3, l4, l5, l6, l7, l8, l9], st, w) Q ↔ cf_wp T_P_middle (15, [some (.inr k), l1, l2, l3, l4, l5, l6, l7, l8, l9], .inr k :: st, w) Q := cf_w1 rfl
theorem r_P_middle_15 {l0 l1 l2 l3 l4 l5 l6 l7 l8 l9 : Option cf_AV} {st : List cf_AV} {w : cf_Wd} {Q : cf_Rs → Prop} : cf_wp T_P_middle (15, [l0, l1, l2, l3, l4, l5, l6, l7, l8, l9], .inr 15 :: st, w) Q ↔ cf_wp T_P_middle (18, [l0, l1, l2, l3, l4, l5, l6, l7, l8, l9], .inl (w 15 0) :: st, w) Q := cf_w1 rfl
theorem r_P_middle_18 {l0 l1 l2 l3 l4 l5 l6 l7 l8 l9 : Option cf_AV} {st : List cf_AV} {w : cf_Wd} {Q : cf_Rs → Prop} : cf_wp T_P_middle (18, [l0, l1, l2, l3, l4, l5, l6, l7, l8, l9], st, w) Q ↔ cf_wp T_P_middle (19, [l0, l1, l2, l3, l4, l5, l6, l7, l8, l9], .inl 1 :: st, w) Q := cf_w1 rfl
theorem r_P_middle_19 {l0 l1 l2 l3 l4 l5 l6 l7 l8 l9 : Option cf_AV} {x y : Int32} {st : List cf_AV} {w : cf_Wd} {Q : cf_Rs → Prop} : cf_wp T_P_middle (19, [l0, l1, l2, l3, l4, l5, l6, l7, l8, l9], .inl y :: .inl x :: st, w) Q ↔ cf_wp T_P_middle (20, [l0, l1, l2, l3, l4, l5, l6, l7, l8, l9], .inl (x - y) :: st, w) Q := cf_w1 rfl
theorem r_P_middle_20 {l0 l1 l2 l3 l4 l5 l6 l7 l8 l9 : Option cf_AV} {x : Int32} {st : List cf_AV} {w : cf_Wd} {Q : cf_Rs → Prop} : cf_wp T_P_middle (20, [l0, l1, l2, l3, l4, l5, l6, l7, l8, l9], .inl x :: st, w) Q ↔ cf_wp T_P_middle (22, [l0, l1, l2, l3, l4, l5, some (.inl x), l7, l8, l9], st, w) Q := cf_w1 rfl
theorem r_P_middle_22 {l0 l1 l2 l3 l4 l5 l7 l8 l9 : Option cf_AV} {x : Int32} {st : List cf_AV} {w : cf_Wd} {Q : cf_Rs → Prop} : cf_wp T_P_middle (22, [l0, l1, l2, l3, l4, l5, some (.inl x), l7, l8, l9], st, w) Q ↔ cf_wp T_P_middle (24, [l0, l1, l2, l3, l4, l5, some (.inl x), l7, l8, l9], .inl x :: st, w) Q := cf_w1 rfl
theorem r_P_middle_24 {l0 l1 l2 l3 l4 l5 l6 l7 l8 l9 : Option cf_AV} {x : Int32} {st : List cf_AV} {w : cf_Wd} {Q : cf_Rs → Prop} : cf_wp T_P_middle (24, [l0, l1, l2, l3, l4, l5, l6, l7, l8, l9], .inl x :: st, w) Q ↔ (if x < 0 then cf_wp T_P_middle (138, [l0, l1, l2, l3, l4, l5, l6, l7, l8, l9], st, w) Q else cf_wp T_P_middle (27, [l0, l1, l2, l3, l4, l5, l6, l7, l8, l9], st, w) Q) := cf_wi rfl
theorem r_P_middle_27 {l1 l2 l3 l4 l5 l6 l7 l8 l9 : Option cf_AV} {k : Nat} {st : List cf_AV} {w : cf_Wd} {Q : cf_Rs → Prop} : cf_wp T_P_middle (27, [some (.inr k), l1, l2, l3, l4, l5, l6, l7, l8, l9], st, w) Q ↔ cf_wp T_P_middle (28, [some (.inr k), l1, l2, l3, l4, l5, l6, l7, l8, l9], .inr k :: st, w) Q := cf_w1 rfl
theorem r_P_middle_28 {l0 l1 l2 l3 l4 l5 l7 l8 l9 : Option cf_AV} {x : Int32} {st : List cf_AV} {w : cf_Wd} {Q : cf_Rs → Prop} : cf_wp T_P_middle (28, [l0, l1, l2, l3, l4, l5, some (.inl x), l7, l8, l9], st, w) Q ↔ cf_wp T_P_middle (30, [l0, l1, l2, l3, l4, l5, some (.inl x), l7, l8, l9], .inl x :: st, w) Q := cf_w1 rfl
theorem r_P_middle_30 {l0 l1 l2 l3 l4 l5 l6 l7 l8 l9 : Option cf_AV} {a1 : Int32} {w : cf_Wd} {Q : cf_Rs → Prop} : cf_wp T_P_middle (30, [l0, l1, l2, l3, l4, l5, l6, l7, l8, l9], [.inl a1, .inr 15], w) Q ↔ ∃ x w1, F_P_weightOf [.inr 15, .inl a1] w = some (some (.inl x), w1) ∧ cf_wp T_P_middle (33, [l0, l1, l2, l3, l4, l5, l6, l7, l8, l9], [.inl x], w1) Q := cf_wci (n := 2) (F := F_P_weightOf) (nx := 33) rfl rfl cf_F_i
theorem c_P_middle_30 {l0 l1 l2 l3 l4 l5 l6 l7 l8 l9 : Option cf_AV} {a1 : Int32} {x1 : Int32} {w1 : cf_Wd} {w : cf_Wd} {Q : cf_Rs → Prop} (hs : F_P_weightOf [.inr 15, .inl a1] w = some (some (.inl x1), w1)) : cf_wp T_P_middle (30, [l0, l1, l2, l3, l4, l5, l6, l7, l8, l9], [.inl a1, .inr 15], w) Q ↔ cf_wp T_P_middle (33, [l0, l1, l2, l3, l4, l5, l6, l7, l8, l9], [.inl x1], w1) Q := r_P_middle_30.trans (cf_xi hs)
theorem r_P_middle_33 {l0 l1 l2 l3 l4 l5 l6 l7 l8 l9 : Option cf_AV} {x : Int32} {st : List cf_AV} {w : cf_Wd} {Q : cf_Rs → Prop} : cf_wp T_P_middle (33, [l0, l1, l2, l3, l4, l5, l6, l7, l8, l9], .inl x :: st, w) Q ↔ cf_wp T_P_middle (35, [l0, l1, l2, l3, l4, l5, l6, some (.inl x), l8, l9], st, w) Q := cf_w1 rfl
theorem r_P_middle_35 {l0 l1 l2 l3 l4 l5 l6 l8 l9 : Option cf_AV} {x : Int32} {st : List cf_AV} {w : cf_Wd} {Q : cf_Rs → Prop} : cf_wp T_P_middle (35, [l0, l1, l2, l3, l4, l5, l6, some (.inl x), l8, l9], st, w) Q ↔ cf_wp T_P_middle (37, [l0, l1, l2, l3, l4, l5, l6, some (.inl x), l8, l9], .inl x :: st, w) Q := cf_w1 rfl
theorem r_P_middle_37 {l0 l1 l2 l3 l5 l6 l7 l8 l9 : Option cf_AV} {x : Int32} {st : List cf_AV} {w : cf_Wd} {Q : cf_Rs → Prop} : cf_wp T_P_middle (37, [l0, l1, l2, l3, some (.inl x), l5, l6, l7, l8, l9], st, w) Q ↔ cf_wp T_P_middle (39, [l0, l1, l2, l3, some (.inl x), l5, l6, l7, l8, l9], .inl x :: st, w) Q := cf_w1 rfl
theorem r_P_middle_39 {l0 l1 l2 l3 l4 l5 l6 l8 l9 : Option cf_AV} {x : Int32} {st : List cf_AV} {w : cf_Wd} {Q : cf_Rs → Prop} : cf_wp T_P_middle (39, [l0, l1, l2, l3, l4, l5, l6, some (.inl x), l8, l9], st, w) Q ↔ cf_wp T_P_middle (41, [l0, l1, l2, l3, l4, l5, l6, some (.inl x), l8, l9], .inl x :: st, w) Q := cf_w1 rfl
theorem r_P_middle_41 {l0 l1 l2 l3 l4 l5 l6 l7 l8 l9 : Option cf_AV} {x y : Int32} {st : List cf_AV} {w : cf_Wd} {Q : cf_Rs → Prop} : cf_wp T_P_middle (41, [l0, l1, l2, l3, l4, l5, l6, l7, l8, l9], .inl y :: .inl x :: st, w) Q ↔ cf_wp T_P_middle (42, [l0, l1, l2, l3, l4, l5, l6, l7, l8, l9], .inl (x - y) :: st, w) Q := cf_w1 rfl
theorem r_P_middle_42 {l0 l1 l2 l3 l4 l5 l6 l7 l8 l9 : Option cf_AV} {x y : Int32} {st : List cf_AV} {w : cf_Wd} {Q : cf_Rs → Prop} : cf_wp T_P_middle (42, [l0, l1, l2, l3, l4, l5, l6, l7, l8, l9], .inl y :: .inl x :: st, w) Q ↔ (if y ≤ x then cf_wp T_P_middle (50, [l0, l1, l2, l3, l4, l5, l6, l7, l8, l9], st, w) Q else cf_wp T_P_middle (45, [l0, l1, l2, l3, l4, l5, l6, l7, l8, l9], st, w) Q) := cf_wi rfl
theorem r_P_middle_45 {l0 l1 l2 l3 l4 l5 l6 l8 l9 : Option cf_AV} {x : Int32} {st : List cf_AV} {w : cf_Wd} {Q : cf_Rs → Prop} : cf_wp T_P_middle (45, [l0, l1, l2, l3, l4, l5, l6, some (.inl x), l8, l9], st, w) Q ↔ cf_wp T_P_middle (47, [l0, l1, l2, l3, l4, l5, l6, some (.inl x), l8, l9], .inl x :: st, w) Q := cf_w1 rfl
theorem r_P_middle_47 {l0 l1 l2 l3 l4 l5 l6 l7 l8 l9 : Option cf_AV} {st : List cf_AV} {w : cf_Wd} {Q : cf_Rs → Prop} : cf_wp T_P_middle (47, [l0, l1, l2, l3, l4, l5, l6, l7, l8, l9], st, w) Q ↔ cf_wp T_P_middle (55, [l0, l1, l2, l3, l4, l5, l6, l7, l8, l9], st, w) Q := cf_w1 rfl
theorem r_P_middle_50 {l0 l1 l2 l3 l5 l6 l7 l8 l9 : Option cf_AV} {x : Int32} {st : List cf_AV} {w : cf_Wd} {Q : cf_Rs → Prop} : cf_wp T_P_middle (50, [l0, l1, l2, l3, some (.inl x), l5, l6, l7, l8, l9], st, w) Q ↔ cf_wp T_P_middle (52, [l0, l1, l2, l3, some (.inl x), l5, l6, l7, l8, l9], .inl x :: st, w) Q := cf_w1 rfl
theorem r_P_middle_52 {l0 l1 l2 l3 l4 l5 l6 l8 l9 : Option cf_AV} {x : Int32} {st : List cf_AV} {w : cf_Wd} {Q : cf_Rs → Prop} : cf_wp T_P_middle (52, [l0, l1, l2, l3, l4, l5, l6, some (.inl x), l8, l9], st, w) Q ↔ cf_wp T_P_middle (54, [l0, l1, l2, l3, l4, l5, l6, some (.inl x), l8, l9], .inl x :: st, w) Q := cf_w1 rfl
theorem r_P_middle_54 {l0 l1 l2 l3 l4 l5 l6 l7 l8 l9 : Option cf_AV} {x y : Int32} {st : List cf_AV} {w : cf_Wd} {Q : cf_Rs → Prop} : cf_wp T_P_middle (54, [l0, l1, l2, l3, l4, l5, l6, l7, l8, l9], .inl y :: .inl x :: st, w) Q ↔ cf_wp T_P_middle (55, [l0, l1, l2, l3, l4, l5, l6, l7, l8, l9], .inl (x - y) :: st, w) Q := cf_w1 rfl
theorem r_P_middle_55 {l0 l1 l2 l3 l4 l5 l6 l7 l8 l9 : Option cf_AV} {x : Int32} {st : List cf_AV} {w : cf_Wd} {Q : cf_Rs → Prop} : cf_wp T_P_middle (55, [l0, l1, l2, l3, l4, l5, l6, l7, l8, l9], .inl x :: st, w) Q ↔ cf_wp T_P_middle (57, [l0, l1, l2, l3, l4, l5, l6, l7, some (.inl x), l9], st, w) Q := cf_w1 rfl
theorem r_P_middle_57 {l1 l2 l3 l4 l5 l6 l7 l8 l9 : Option cf_AV} {k : Nat} {st : List cf_AV} {w : cf_Wd} {Q : cf_Rs → Prop} : cf_wp T_P_middle (57, [some (.inr k), l1, l2, l3, l4, l5, l6, l7, l8, l9], st, w) Q ↔ cf_wp T_P_middle (58, [some (.inr k), l1, l2, l3, l4, l5, l6, l7, l8, l9], .inr k :: st, w) Q := cf_w1 rfl
theorem r_P_middle_58 {l0 l1 l2 l3 l4 l5 l6 l7 l8 l9 : Option cf_AV} {st : List cf_AV} {w : cf_Wd} {Q : cf_Rs → Prop} : cf_wp T_P_middle (58, [l0, l1, l2, l3, l4, l5, l6, l7, l8, l9], .inr 15 :: st, w) Q ↔ cf_wp T_P_middle (61, [l0, l1, l2, l3, l4, l5, l6, l7, l8, l9], .inl (w 15 20) :: st, w) Q := cf_w1 rfl
theorem r_P_middle_61 {l0 l1 l2 l3 l4 l5 l7 l8 l9 : Option cf_AV} {x : Int32} {st : List cf_AV} {w : cf_Wd} {Q : cf_Rs → Prop} : cf_wp T_P_middle (61, [l0, l1, l2, l3, l4, l5, some (.inl x), l7, l8, l9], st, w) Q ↔ cf_wp T_P_middle (63, [l0, l1, l2, l3, l4, l5, some (.inl x), l7, l8, l9], .inl x :: st, w) Q := cf_w1 rfl
theorem r_P_middle_63 {l0 l1 l2 l3 l4 l5 l6 l7 l8 l9 : Option cf_AV} {x y : Int32} {st : List cf_AV} {w : cf_Wd} {Q : cf_Rs → Prop} : cf_wp T_P_middle (63, [l0, l1, l2, l3, l4, l5, l6, l7, l8, l9], .inl y :: .inl x :: st, w) Q ↔ cf_wp T_P_middle (64, [l0, l1, l2, l3, l4, l5, l6, l7, l8, l9], .inl (x >>> (y &&& 31)) :: st, w) Q := cf_w1 rfl
theorem r_P_middle_64 {l0 l1 l2 l3 l4 l5 l6 l7 l8 l9 : Option cf_AV} {st : List cf_AV} {w : cf_Wd} {Q : cf_Rs → Prop} : cf_wp T_P_middle (64, [l0, l1, l2, l3, l4, l5, l6, l7, l8, l9], st, w) Q ↔ cf_wp T_P_middle (65, [l0, l1, l2, l3, l4, l5, l6, l7, l8, l9], .inl 1 :: st, w) Q := cf_w1 rfl
theorem r_P_middle_65 {l0 l1 l2 l3 l4 l5 l6 l7 l8 l9 : Option cf_AV} {x y : Int32} {st : List cf_AV} {w : cf_Wd} {Q : cf_Rs → Prop} : cf_wp T_P_middle (65, [l0, l1, l2, l3, l4, l5, l6, l7, l8, l9], .inl y :: .inl x :: st, w) Q ↔ cf_wp T_P_middle (66, [l0, l1, l2, l3, l4, l5, l6, l7, l8, l9], .inl (x &&& y) :: st, w) Q := cf_w1 rfl
theorem r_P_middle_66 {l0 l1 l2 l3 l4 l5 l6 l7 l8 l9 : Option cf_AV} {st : List cf_AV} {w : cf_Wd} {Q : cf_Rs → Prop} : cf_wp T_P_middle (66, [l0, l1, l2, l3, l4, l5, l6, l7, l8, l9], st, w) Q ↔ cf_wp T_P_middle (67, [l0, l1, l2, l3, l4, l5, l6, l7, l8, l9], .inl 1 :: st, w) Q := cf_w1 rfl
theorem r_P_middle_67 {l0 l1 l2 l3 l4 l5 l6 l7 l8 l9 : Option cf_AV} {x y : Int32} {st : List cf_AV} {w : cf_Wd} {Q : cf_Rs → Prop} : cf_wp T_P_middle (67, [l0, l1, l2, l3, l4, l5, l6, l7, l8, l9], .inl y :: .inl x :: st, w) Q ↔ (if ¬ x = y then cf_wp T_P_middle (89, [l0, l1, l2, l3, l4, l5, l6, l7, l8, l9], st, w) Q else cf_wp T_P_middle (70, [l0, l1, l2, l3, l4, l5, l6, l7, l8, l9], st, w) Q) := cf_wi rfl
theorem r_P_middle_70 {l0 l1 l2 l3 l4 l5 l7 l8 l9 : Option cf_AV} {x : Int32} {st : List cf_AV} {w : cf_Wd} {Q : cf_Rs → Prop} : cf_wp T_P_middle (70, [l0, l1, l2, l3, l4, l5, some (.inl x), l7, l8, l9], st, w) Q ↔ cf_wp T_P_middle (72, [l0, l1, l2, l3, l4, l5, some (.inl x), l7, l8, l9], .inl x :: st, w) Q := cf_w1 rfl
theorem r_P_middle_72 {l0 l2 l3 l4 l5 l6 l7 l8 l9 : Option cf_AV} {x : Int32} {st : List cf_AV} {w : cf_Wd} {Q : cf_Rs → Prop} : cf_wp T_P_middle (72, [l0, some (.inl x), l2, l3, l4, l5, l6, l7, l8, l9], st, w) Q ↔ cf_wp T_P_middle (73, [l0, some (.inl x), l2, l3, l4, l5, l6, l7, l8, l9], .inl x :: st, w) Q := cf_w1 rfl
theorem r_P_middle_73 {l0 l1 l2 l3 l4 l5 l6 l7 l8 l9 : Option cf_AV} {x y : Int32} {st : List cf_AV} {w : cf_Wd} {Q : cf_Rs → Prop} : cf_wp T_P_middle (73, [l0, l1, l2, l3, l4, l5, l6, l7, l8, l9], .inl y :: .inl x :: st, w) Q ↔ (if x = y then cf_wp T_P_middle (89, [l0, l1, l2, l3, l4, l5, l6, l7, l8, l9], st, w) Q else cf_wp T_P_middle (76, [l0, l1, l2, l3, l4, l5, l6, l7, l8, l9], st, w) Q) := cf_wi rfl
theorem r_P_middle_76 {l0 l1 l3 l4 l5 l6 l7 l8 l9 : Option cf_AV} {x : Int32} {st : List cf_AV} {w : cf_Wd} {Q : cf_Rs → Prop} : cf_wp T_P_middle (76, [l0, l1, some (.inl x), l3, l4, l5, l6, l7, l8, l9], st, w) Q ↔ cf_wp T_P_middle (77, [l0, l1, some (.inl x), l3, l4, l5, l6, l7, l8, l9], .inl x :: st, w) Q := cf_w1 rfl
theorem r_P_middle_77 {l0 l1 l2 l3 l4 l5 l7 l8 l9 : Option cf_AV} {x : Int32} {st : List cf_AV} {w : cf_Wd} {Q : cf_Rs → Prop} : cf_wp T_P_middle (77, [l0, l1, l2, l3, l4, l5, some (.inl x), l7, l8, l9], st, w) Q ↔ cf_wp T_P_middle (79, [l0, l1, l2, l3, l4, l5, some (.inl x), l7, l8, l9], .inl x :: st, w) Q := cf_w1 rfl
theorem r_P_middle_79 {l0 l1 l2 l3 l4 l5 l6 l7 l8 l9 : Option cf_AV} {x y : Int32} {st : List cf_AV} {w : cf_Wd} {Q : cf_Rs → Prop} : cf_wp T_P_middle (79, [l0, l1, l2, l3, l4, l5, l6, l7, l8, l9], .inl y :: .inl x :: st, w) Q ↔ cf_wp T_P_middle (80, [l0, l1, l2, l3, l4, l5, l6, l7, l8, l9], .inl (x >>> (y &&& 31)) :: st, w) Q := cf_w1 rfl
theorem r_P_middle_80 {l0 l1 l2 l3 l4 l5 l6 l7 l8 l9 : Option cf_AV} {st : List cf_AV} {w : cf_Wd} {Q : cf_Rs → Prop} : cf_wp T_P_middle (80, [l0, l1, l2, l3, l4, l5, l6, l7, l8, l9], st, w) Q ↔ cf_wp T_P_middle (81, [l0, l1, l2, l3, l4, l5, l6, l7, l8, l9], .inl 1 :: st, w) Q := cf_w1 rfl
theorem r_P_middle_81 {l0 l1 l2 l3 l4 l5 l6 l7 l8 l9 : Option cf_AV} {x y : Int32} {st : List cf_AV} {w : cf_Wd} {Q : cf_Rs → Prop} : cf_wp T_P_middle (81, [l0, l1, l2, l3, l4, l5, l6, l7, l8, l9], .inl y :: .inl x :: st, w) Q ↔ cf_wp T_P_middle (82, [l0, l1, l2, l3, l4, l5, l6, l7, l8, l9], .inl (x &&& y) :: st, w) Q := cf_w1 rfl
theorem r_P_middle_82 {l0 l1 l2 l3 l4 l5 l6 l7 l8 l9 : Option cf_AV} {x : Int32} {st : List cf_AV} {w : cf_Wd} {Q : cf_Rs → Prop} : cf_wp T_P_middle (82, [l0, l1, l2, l3, l4, l5, l6, l7, l8, l9], .inl x :: st, w) Q ↔ (if ¬ x = 0 then cf_wp T_P_middle (89, [l0, l1, l2, l3, l4, l5, l6, l7, l8, l9], st, w) Q else cf_wp T_P_middle (85, [l0, l1, l2, l3, l4, l5, l6, l7, l8, l9], st, w) Q) := cf_wi rfl
theorem r_P_middle_85 {l0 l1 l2 l3 l4 l5 l6 l7 l8 l9 : Option cf_AV} {st : List cf_AV} {w : cf_Wd} {Q : cf_Rs → Prop} : cf_wp T_P_middle (85, [l0, l1, l2, l3, l4, l5, l6, l7, l8, l9], st, w) Q ↔ cf_wp T_P_middle (86, [l0, l1, l2, l3, l4, l5, l6, l7, l8, l9], .inl 1 :: st, w) Q := cf_w1 rfl
theorem r_P_middle_86 {l0 l1 l2 l3 l4 l5 l6 l7 l8 l9 : Option cf_AV} {st : List cf_AV} {w : cf_Wd} {Q : cf_Rs → Prop} : cf_wp T_P_middle (86, [l0, l1, l2, l3, l4, l5, l6, l7, l8, l9], st, w) Q ↔ cf_wp T_P_middle (90, [l0, l1, l2, l3, l4, l5, l6, l7, l8, l9], st, w) Q := cf_w1 rfl
theorem r_P_middle_89 {l0 l1 l2 l3 l4 l5 l6 l7 l8 l9 : Option cf_AV} {st : List cf_AV} {w : cf_Wd} {Q : cf_Rs → Prop} : cf_wp T_P_middle (89, [l0, l1, l2, l3, l4, l5, l6, l7, l8, l9], st, w) Q ↔ cf_wp T_P_middle (90, [l0, l1, l2, l3, l4, l5, l6, l7, l8, l9], .inl 0 :: st, w) Q := cf_w1 rfl
theorem r_P_middle_90 {l0 l1 l2 l3 l4 l5 l6 l7 l8 l9 : Option cf_AV} {x : Int32} {st : List cf_AV} {w : cf_Wd} {Q : cf_Rs → Prop} : cf_wp T_P_middle (90, [l0, l1, l2, l3, l4, l5, l6, l7, l8, l9], .inl x :: st, w) Q ↔ cf_wp T_P_middle (92, [l0, l1, l2, l3, l4, l5, l6, l7, l8, some (.inl x)], st, w) Q := cf_w1 rfl
theorem r_P_middle_92 {l0 l1 l2 l3 l4 l5 l6 l7 l8 : Option cf_AV} {x : Int32} {st : List cf_AV} {w : cf_Wd} {Q : cf_Rs → Prop} : cf_wp T_P_middle (92, [l0, l1, l2, l3, l4, l5, l6, l7, l8, some (.inl x)], st, w) Q ↔ cf_wp T_P_middle (94, [l0, l1, l2, l3, l4, l5, l6, l7, l8, some (.inl x)], .inl x :: st, w) Q := cf_w1 rfl
theorem r_P_middle_94 {l0 l1 l2 l3 l4 l5 l6 l7 l8 l9 : Option cf_AV} {x : Int32} {st : List cf_AV} {w : cf_Wd} {Q : cf_Rs → Prop} : cf_wp T_P_middle (94, [l0, l1, l2, l3, l4, l5, l6, l7, l8, l9], .inl x :: st, w) Q ↔ (if x = 0 then cf_wp T_P_middle (109, [l0, l1, l2, l3, l4, l5, l6, l7, l8, l9], st, w) Q else cf_wp T_P_middle (97, [l0, l1, l2, l3, l4, l5, l6, l7, l8, l9], st, w) Q) := cf_wi rfl
theorem r_P_middle_97 {l0 l1 l2 l3 l4 l5 l6 l7 l9 : Option cf_AV} {x : Int32} {st : List cf_AV} {w : cf_Wd} {Q : cf_Rs → Prop} : cf_wp T_P_middle (97, [l0, l1, l2, l3, l4, l5, l6, l7, some (.inl x), l9], st, w) Q ↔ cf_wp T_P_middle (99, [l0, l1, l2, l3, l4, l5, l6, l7, some (.inl x), l9], .inl x :: st, w) Q := cf_w1 rfl
theorem r_P_middle_99 {l0 l1 l2 l3 l4 l6 l7 l8 l9 : Option cf_AV} {x : Int32} {st : List cf_AV} {w : cf_Wd} {Q : cf_Rs → Prop} : cf_wp T_P_middle (99, [l0, l1, l2, l3, l4, some (.inl x), l6, l7, l8, l9], st, w) Q ↔ cf_wp T_P_middle (101, [l0, l1, l2, l3, l4, some (.inl x), l6, l7, l8, l9], .inl x :: st, w) Q := cf_w1 rfl
theorem r_P_middle_101 {l0 l1 l2 l3 l4 l5 l6 l7 l8 l9 : Option cf_AV} {x y : Int32} {st : List cf_AV} {w : cf_Wd} {Q : cf_Rs → Prop} : cf_wp T_P_middle (101, [l0, l1, l2, l3, l4, l5, l6, l7, l8, l9], .inl y :: .inl x :: st, w) Q ↔ (if x < y then cf_wp T_P_middle (109, [l0, l1, l2, l3, l4, l5, l6, l7, l8, l9], st, w) Q else cf_wp T_P_middle (104, [l0, l1, l2, l3, l4, l5, l6, l7, l8, l9], st, w) Q) := cf_wi rfl
theorem r_P_middle_104 {l0 l1 l2 l3 l4 l5 l7 l8 l9 : Option cf_AV} {x : Int32} {st : List cf_AV} {w : cf_Wd} {Q : cf_Rs → Prop} : cf_wp T_P_middle (104, [l0, l1, l2, l3, l4, l5, some (.inl x), l7, l8, l9], st, w) Q ↔ cf_wp T_P_middle (106, [l0, l1, l2, l3, l4, l5, some (.inl x), l7, l8, l9], .inl x :: st, w) Q := cf_w1 rfl
theorem r_P_middle_106 {l0 l1 l2 l3 l4 l5 l6 l7 l8 l9 : Option cf_AV} {st : List cf_AV} {w : cf_Wd} {Q : cf_Rs → Prop} : cf_wp T_P_middle (106, [l0, l1, l2, l3, l4, l5, l6, l7, l8, l9], st, w) Q ↔ cf_wp T_P_middle (110, [l0, l1, l2, l3, l4, l5, l6, l7, l8, l9], st, w) Q := cf_w1 rfl
theorem r_P_middle_109 {l0 l1 l2 l4 l5 l6 l7 l8 l9 : Option cf_AV} {x : Int32} {st : List cf_AV} {w : cf_Wd} {Q : cf_Rs → Prop} : cf_wp T_P_middle (109, [l0, l1, l2, some (.inl x), l4, l5, l6, l7, l8, l9], st, w) Q ↔ cf_wp T_P_middle (110, [l0, l1, l2, some (.inl x), l4, l5, l6, l7, l8, l9], .inl x :: st, w) Q := cf_w1 rfl
theorem r_P_middle_110 {l0 l1 l2 l3 l4 l5 l6 l7 l8 l9 : Option cf_AV} {x : Int32} {st : List cf_AV} {w : cf_Wd} {Q : cf_Rs → Prop} : cf_wp T_P_middle (110, [l0, l1, l2, l3, l4, l5, l6, l7, l8, l9], .inl x :: st, w) Q ↔ cf_wp T_P_middle (111, [l0, l1, l2, some (.inl x), l4, l5, l6, l7, l8, l9], st, w) Q := cf_w1 rfl
theorem r_P_middle_111 {l0 l1 l2 l3 l4 l5 l6 l7 l8 : Option cf_AV} {x : Int32} {st : List cf_AV} {w : cf_Wd} {Q : cf_Rs → Prop} : cf_wp T_P_middle (111, [l0, l1, l2, l3, l4, l5, l6, l7, l8, some (.inl x)], st, w) Q ↔ cf_wp T_P_middle (113, [l0, l1, l2, l3, l4, l5, l6, l7, l8, some (.inl x)], .inl x :: st, w) Q := cf_w1 rfl
theorem r_P_middle_113 {l0 l1 l2 l3 l4 l5 l6 l7 l8 l9 : Option cf_AV} {x : Int32} {st : List cf_AV} {w : cf_Wd} {Q : cf_Rs → Prop} : cf_wp T_P_middle (113, [l0, l1, l2, l3, l4, l5, l6, l7, l8, l9], .inl x :: st, w) Q ↔ (if x = 0 then cf_wp T_P_middle (128, [l0, l1, l2, l3, l4, l5, l6, l7, l8, l9], st, w) Q else cf_wp T_P_middle (116, [l0, l1, l2, l3, l4, l5, l6, l7, l8, l9], st, w) Q) := cf_wi rfl
theorem r_P_middle_116 {l0 l1 l2 l3 l4 l5 l6 l7 l9 : Option cf_AV} {x : Int32} {st : List cf_AV} {w : cf_Wd} {Q : cf_Rs → Prop} : cf_wp T_P_middle (116, [l0, l1, l2, l3, l4, l5, l6, l7, some (.inl x), l9], st, w) Q ↔ cf_wp T_P_middle (118, [l0, l1, l2, l3, l4, l5, l6, l7, some (.inl x), l9], .inl x :: st, w) Q := cf_w1 rfl
theorem r_P_middle_118 {l0 l1 l2 l3 l4 l6 l7 l8 l9 : Option cf_AV} {x : Int32} {st : List cf_AV} {w : cf_Wd} {Q : cf_Rs → Prop} : cf_wp T_P_middle (118, [l0, l1, l2, l3, l4, some (.inl x), l6, l7, l8, l9], st, w) Q ↔ cf_wp T_P_middle (120, [l0, l1, l2, l3, l4, some (.inl x), l6, l7, l8, l9], .inl x :: st, w) Q := cf_w1 rfl
theorem r_P_middle_120 {l0 l1 l2 l3 l4 l5 l6 l7 l8 l9 : Option cf_AV} {x y : Int32} {st : List cf_AV} {w : cf_Wd} {Q : cf_Rs → Prop} : cf_wp T_P_middle (120, [l0, l1, l2, l3, l4, l5, l6, l7, l8, l9], .inl y :: .inl x :: st, w) Q ↔ (if x ≤ y then cf_wp T_P_middle (128, [l0, l1, l2, l3, l4, l5, l6, l7, l8, l9], st, w) Q else cf_wp T_P_middle (123, [l0, l1, l2, l3, l4, l5, l6, l7, l8, l9], st, w) Q) := cf_wi rfl
theorem r_P_middle_123 {l0 l1 l2 l3 l4 l5 l6 l7 l9 : Option cf_AV} {x : Int32} {st : List cf_AV} {w : cf_Wd} {Q : cf_Rs → Prop} : cf_wp T_P_middle (123, [l0, l1, l2, l3, l4, l5, l6, l7, some (.inl x), l9], st, w) Q ↔ cf_wp T_P_middle (125, [l0, l1, l2, l3, l4, l5, l6, l7, some (.inl x), l9], .inl x :: st, w) Q := cf_w1 rfl
theorem r_P_middle_125 {l0 l1 l2 l3 l4 l5 l6 l7 l8 l9 : Option cf_AV} {st : List cf_AV} {w : cf_Wd} {Q : cf_Rs → Prop} : cf_wp T_P_middle (125, [l0, l1, l2, l3, l4, l5, l6, l7, l8, l9], st, w) Q ↔ cf_wp T_P_middle (130, [l0, l1, l2, l3, l4, l5, l6, l7, l8, l9], st, w) Q := cf_w1 rfl
theorem r_P_middle_128 {l0 l1 l2 l3 l4 l6 l7 l8 l9 : Option cf_AV} {x : Int32} {st : List cf_AV} {w : cf_Wd} {Q : cf_Rs → Prop} : cf_wp T_P_middle (128, [l0, l1, l2, l3, l4, some (.inl x), l6, l7, l8, l9], st, w) Q ↔ cf_wp T_P_middle (130, [l0, l1, l2, l3, l4, some (.inl x), l6, l7, l8, l9], .inl x :: st, w) Q := cf_w1 rfl
theorem r_P_middle_130 {l0 l1 l2 l3 l4 l5 l6 l7 l8 l9 : Option cf_AV} {x : Int32} {st : List cf_AV} {w : cf_Wd} {Q : cf_Rs → Prop} : cf_wp T_P_middle (130, [l0, l1, l2, l3, l4, l5, l6, l7, l8, l9], .inl x :: st, w) Q ↔ cf_wp T_P_middle (132, [l0, l1, l2, l3, l4, some (.inl x), l6, l7, l8, l9], st, w) Q := cf_w1 rfl
theorem r_P_middle_132 {l0 l1 l2 l3 l4 l5 l7 l8 l9 : Option cf_AV} {x : Int32} {st : List cf_AV} {w : cf_Wd} {Q : cf_Rs → Prop} : cf_wp T_P_middle (132, [l0, l1, l2, l3, l4, l5, some (.inl x), l7, l8, l9], st, w) Q ↔ cf_wp T_P_middle (135, [l0, l1, l2, l3, l4, l5, some (.inl (x + (-1))), l7, l8, l9], st, w) Q := cf_w1 rfl
theorem r_P_middle_135 {l0 l1 l2 l3 l4 l5 l6 l7 l8 l9 : Option cf_AV} {st : List cf_AV} {w : cf_Wd} {Q : cf_Rs → Prop} : cf_wp T_P_middle (135, [l0, l1, l2, l3, l4, l5, l6, l7, l8, l9], st, w) Q ↔ cf_wp T_P_middle (22, [l0, l1, l2, l3, l4, l5, l6, l7, l8, l9], st, w) Q := cf_w1 rfl
theorem r_P_middle_138 {l0 l1 l2 l4 l5 l6 l7 l8 l9 : Option cf_AV} {x : Int32} {st : List cf_AV} {w : cf_Wd} {Q : cf_Rs → Prop} : cf_wp T_P_middle (138, [l0, l1, l2, some (.inl x), l4, l5, l6, l7, l8, l9], st, w) Q ↔ cf_wp T_P_middle (139, [l0, l1, l2, some (.inl x), l4, l5, l6, l7, l8, l9], .inl x :: st, w) Q := cf_w1 rfl
theorem r_P_middle_139 {l0 l1 l2 l3 l4 l5 l6 l7 l8 l9 : Option cf_AV} {x : Int32} {w : cf_Wd} {P : Int32 → cf_Wd → Prop} : cf_wp T_P_middle (139, [l0, l1, l2, l3, l4, l5, l6, l7, l8, l9], [.inl x], w) (cf_qi P) ↔ P x w := Iff.trans (cf_wr (q := (some (.inl x), w)) rfl) Iff.rfl
theorem e_P_middle {a1 a2 : Int32} {w : cf_Wd} {P : Int32 → cf_Wd → Prop} (h : cf_wp T_P_middle (0, [some (.inr 15), some (.inl a1), some (.inl a2), none, none, none, none, none, none, none], [], w) (cf_qi P)) : ∃ x w1, F_P_middle [.inr 15, .inl a1, .inl a2] w = some (some (.inl x), w1) ∧ P x w1 := cf_ei rfl (Nat.le_of_ble_eq_true rfl) h
noncomputable def T_P_halve (pc : Nat) : cf_Rw := bif Nat.ble pc 97 then
 (bif Nat.ble pc 44 then
  (bif Nat.ble pc 19 then
   (bif Nat.ble pc 10 then
    (bif Nat.ble pc 4 then
     (bif Nat.ble pc 0 then
      (bif Nat.beq pc 0 then cf_aload 0 1 else cf_stuck)
      else
      (bif Nat.ble pc 1 then
       (bif Nat.beq pc 1 then cf_get 5 7 4 else cf_stuck)
       else
       (bif Nat.beq pc 4 then cf_istore 1 5 else cf_stuck)))
     else
     (bif Nat.ble pc 6 then
      (bif Nat.ble pc 5 then
       (bif Nat.beq pc 5 then cf_const 1 6 else cf_stuck)
       else
       (bif Nat.beq pc 6 then cf_aload 0 7 else cf_stuck))
      else
      (bif Nat.ble pc 7 then
       (bif Nat.beq pc 7 then cf_get 5 7 10 else cf_stuck)
       else
       (bif Nat.beq pc 10 then cf_bin (fun x y => x <<< (y &&& 31)) 11 else cf_stuck))))
    else
    (bif Nat.ble pc 13 then
     (bif Nat.ble pc 11 then
      (bif Nat.beq pc 11 then cf_const 1 12 else cf_stuck)
      else
      (bif Nat.ble pc 12 then
       (bif Nat.beq pc 12 then cf_aload 0 13 else cf_stuck)
       else
       (bif Nat.beq pc 13 then cf_get 5 6 16 else cf_stuck)))
     else
     (bif Nat.ble pc 17 then
      (bif Nat.ble pc 16 then
       (bif Nat.beq pc 16 then cf_bin (fun x y => x <<< (y &&& 31)) 17 else cf_stuck)
       else
       (bif Nat.beq pc 17 then cf_bin (fun x y => x ||| y) 18 else cf_stuck))
      else
      (bif Nat.ble pc 18 then
       (bif Nat.beq pc 18 then cf_istore 2 19 else cf_stuck)
       else
       (bif Nat.beq pc 19 then cf_aload 0 20 else cf_stuck)))))
   else
   (bif Nat.ble pc 30 then
    (bif Nat.ble pc 24 then
     (bif Nat.ble pc 20 then
      (bif Nat.beq pc 20 then cf_aload 0 21 else cf_stuck)
      else
      (bif Nat.ble pc 21 then
       (bif Nat.beq pc 21 then cf_get 5 4 24 else cf_stuck)
       else
       (bif Nat.beq pc 24 then cf_aload 0 25 else cf_stuck)))
     else
     (bif Nat.ble pc 28 then
      (bif Nat.ble pc 25 then
       (bif Nat.beq pc 25 then cf_get 5 7 28 else cf_stuck)
       else
       (bif Nat.beq pc 28 then cf_iald 29 else cf_stuck))
      else
      (bif Nat.ble pc 29 then
       (bif Nat.beq pc 29 then cf_aload 0 30 else cf_stuck)
       else
       (bif Nat.beq pc 30 then cf_get 5 4 33 else cf_stuck))))
    else
    (bif Nat.ble pc 38 then
     (bif Nat.ble pc 34 then
      (bif Nat.ble pc 33 then
       (bif Nat.beq pc 33 then cf_aload 0 34 else cf_stuck)
       else
       (bif Nat.beq pc 34 then cf_get 5 6 37 else cf_stuck))
      else
      (bif Nat.ble pc 37 then
       (bif Nat.beq pc 37 then cf_iald 38 else cf_stuck)
       else
       (bif Nat.beq pc 38 then cf_const (-1) 39 else cf_stuck)))
     else
     (bif Nat.ble pc 40 then
      (bif Nat.ble pc 39 then
       (bif Nat.beq pc 39 then cf_bin (fun x y => x ^^^ y) 40 else cf_stuck)
       else
       (bif Nat.beq pc 40 then cf_bin (fun x y => x &&& y) 41 else cf_stuck))
      else
      (bif Nat.ble pc 41 then
       (bif Nat.beq pc 41 then cf_put 5 20 44 else cf_stuck)
       else
       (bif Nat.beq pc 44 then cf_const 0 45 else cf_stuck))))))
  else
  (bif Nat.ble pc 70 then
   (bif Nat.ble pc 54 then
    (bif Nat.ble pc 47 then
     (bif Nat.ble pc 45 then
      (bif Nat.beq pc 45 then cf_istore 3 46 else cf_stuck)
      else
      (bif Nat.ble pc 46 then
       (bif Nat.beq pc 46 then cf_iload 3 47 else cf_stuck)
       else
       (bif Nat.beq pc 47 then cf_const 16 49 else cf_stuck)))
     else
     (bif Nat.ble pc 52 then
      (bif Nat.ble pc 49 then
       (bif Nat.beq pc 49 then cf_icge 206 52 else cf_stuck)
       else
       (bif Nat.beq pc 52 then cf_aload 0 53 else cf_stuck))
      else
      (bif Nat.ble pc 53 then
       (bif Nat.beq pc 53 then cf_iload 1 54 else cf_stuck)
       else
       (bif Nat.beq pc 54 then cf_iload 2 55 else cf_stuck))))
    else
    (bif Nat.ble pc 62 then
     (bif Nat.ble pc 58 then
      (bif Nat.ble pc 55 then
       (bif Nat.beq pc 55 then cf_call 3 F_P_middle 58 else cf_stuck)
       else
       (bif Nat.beq pc 58 then cf_istore 4 60 else cf_stuck))
      else
      (bif Nat.ble pc 60 then
       (bif Nat.beq pc 60 then cf_iload 4 62 else cf_stuck)
       else
       (bif Nat.beq pc 62 then cf_ifge 113 65 else cf_stuck)))
     else
     (bif Nat.ble pc 66 then
      (bif Nat.ble pc 65 then
       (bif Nat.beq pc 65 then cf_aload 0 66 else cf_stuck)
       else
       (bif Nat.beq pc 66 then cf_get 5 20 69 else cf_stuck))
      else
      (bif Nat.ble pc 69 then
       (bif Nat.beq pc 69 then cf_const 1 70 else cf_stuck)
       else
       (bif Nat.beq pc 70 then cf_iload 1 71 else cf_stuck)))))
   else
   (bif Nat.ble pc 82 then
    (bif Nat.ble pc 75 then
     (bif Nat.ble pc 71 then
      (bif Nat.beq pc 71 then cf_bin (fun x y => x <<< (y &&& 31)) 72 else cf_stuck)
      else
      (bif Nat.ble pc 72 then
       (bif Nat.beq pc 72 then cf_icne 79 75 else cf_stuck)
       else
       (bif Nat.beq pc 75 then cf_const 1 76 else cf_stuck)))
     else
     (bif Nat.ble pc 79 then
      (bif Nat.ble pc 76 then
       (bif Nat.beq pc 76 then cf_goto 80 else cf_stuck)
       else
       (bif Nat.beq pc 79 then cf_const 0 80 else cf_stuck))
      else
      (bif Nat.ble pc 80 then
       (bif Nat.beq pc 80 then cf_istore 5 82 else cf_stuck)
       else
       (bif Nat.beq pc 82 then cf_aload 0 83 else cf_stuck))))
    else
    (bif Nat.ble pc 89 then
     (bif Nat.ble pc 85 then
      (bif Nat.ble pc 83 then
       (bif Nat.beq pc 83 then cf_iload 5 85 else cf_stuck)
       else
       (bif Nat.beq pc 85 then cf_ifeq 92 88 else cf_stuck))
      else
      (bif Nat.ble pc 88 then
       (bif Nat.beq pc 88 then cf_iload 1 89 else cf_stuck)
       else
       (bif Nat.beq pc 89 then cf_goto 93 else cf_stuck)))
     else
     (bif Nat.ble pc 93 then
      (bif Nat.ble pc 92 then
       (bif Nat.beq pc 92 then cf_const (-1) 93 else cf_stuck)
       else
       (bif Nat.beq pc 93 then cf_put 5 21 96 else cf_stuck))
      else
      (bif Nat.ble pc 96 then
       (bif Nat.beq pc 96 then cf_aload 0 97 else cf_stuck)
       else
       (bif Nat.beq pc 97 then cf_iload 5 99 else cf_stuck)))))))
 else
 (bif Nat.ble pc 149 then
  (bif Nat.ble pc 127 then
   (bif Nat.ble pc 112 then
    (bif Nat.ble pc 103 then
     (bif Nat.ble pc 99 then
      (bif Nat.beq pc 99 then cf_ifeq 106 102 else cf_stuck)
      else
      (bif Nat.ble pc 102 then
       (bif Nat.beq pc 102 then cf_const 3 103 else cf_stuck)
       else
       (bif Nat.beq pc 103 then cf_goto 107 else cf_stuck)))
     else
     (bif Nat.ble pc 107 then
      (bif Nat.ble pc 106 then
       (bif Nat.beq pc 106 then cf_const 5 107 else cf_stuck)
       else
       (bif Nat.beq pc 107 then cf_put 5 18 110 else cf_stuck))
      else
      (bif Nat.ble pc 110 then
       (bif Nat.beq pc 110 then cf_iload 5 112 else cf_stuck)
       else
       (bif Nat.beq pc 112 then cf_iret else cf_stuck))))
    else
    (bif Nat.ble pc 119 then
     (bif Nat.ble pc 114 then
      (bif Nat.ble pc 113 then
       (bif Nat.beq pc 113 then cf_aload 0 114 else cf_stuck)
       else
       (bif Nat.beq pc 114 then cf_iload 4 116 else cf_stuck))
      else
      (bif Nat.ble pc 116 then
       (bif Nat.beq pc 116 then cf_call 2 F_P_ask 119 else cf_stuck)
       else
       (bif Nat.beq pc 119 then cf_istore 5 121 else cf_stuck)))
     else
     (bif Nat.ble pc 123 then
      (bif Nat.ble pc 121 then
       (bif Nat.beq pc 121 then cf_iload 5 123 else cf_stuck)
       else
       (bif Nat.beq pc 123 then cf_ifne 128 126 else cf_stuck))
      else
      (bif Nat.ble pc 126 then
       (bif Nat.beq pc 126 then cf_const 0 127 else cf_stuck)
       else
       (bif Nat.beq pc 127 then cf_iret else cf_stuck)))))
   else
   (bif Nat.ble pc 135 then
    (bif Nat.ble pc 130 then
     (bif Nat.ble pc 128 then
      (bif Nat.beq pc 128 then cf_iload 2 129 else cf_stuck)
      else
      (bif Nat.ble pc 129 then
       (bif Nat.beq pc 129 then cf_const 1 130 else cf_stuck)
       else
       (bif Nat.beq pc 130 then cf_iload 4 132 else cf_stuck)))
     else
     (bif Nat.ble pc 133 then
      (bif Nat.ble pc 132 then
       (bif Nat.beq pc 132 then cf_bin (fun x y => x <<< (y &&& 31)) 133 else cf_stuck)
       else
       (bif Nat.beq pc 133 then cf_bin (fun x y => x ||| y) 134 else cf_stuck))
      else
      (bif Nat.ble pc 134 then
       (bif Nat.beq pc 134 then cf_istore 2 135 else cf_stuck)
       else
       (bif Nat.beq pc 135 then cf_iload 5 137 else cf_stuck))))
    else
    (bif Nat.ble pc 143 then
     (bif Nat.ble pc 138 then
      (bif Nat.ble pc 137 then
       (bif Nat.beq pc 137 then cf_const 2 138 else cf_stuck)
       else
       (bif Nat.beq pc 138 then cf_icne 146 141 else cf_stuck))
      else
      (bif Nat.ble pc 141 then
       (bif Nat.beq pc 141 then cf_iload 4 143 else cf_stuck)
       else
       (bif Nat.beq pc 143 then cf_goto 147 else cf_stuck)))
     else
     (bif Nat.ble pc 147 then
      (bif Nat.ble pc 146 then
       (bif Nat.beq pc 146 then cf_iload 1 147 else cf_stuck)
       else
       (bif Nat.beq pc 147 then cf_istore 1 148 else cf_stuck))
      else
      (bif Nat.ble pc 148 then
       (bif Nat.beq pc 148 then cf_aload 0 149 else cf_stuck)
       else
       (bif Nat.beq pc 149 then cf_iload 5 151 else cf_stuck))))))
  else
  (bif Nat.ble pc 177 then
   (bif Nat.ble pc 163 then
    (bif Nat.ble pc 155 then
     (bif Nat.ble pc 151 then
      (bif Nat.beq pc 151 then cf_const 2 152 else cf_stuck)
      else
      (bif Nat.ble pc 152 then
       (bif Nat.beq pc 152 then cf_icne 170 155 else cf_stuck)
       else
       (bif Nat.beq pc 155 then cf_aload 0 156 else cf_stuck)))
     else
     (bif Nat.ble pc 159 then
      (bif Nat.ble pc 156 then
       (bif Nat.beq pc 156 then cf_get 5 20 159 else cf_stuck)
       else
       (bif Nat.beq pc 159 then cf_aload 0 160 else cf_stuck))
      else
      (bif Nat.ble pc 160 then
       (bif Nat.beq pc 160 then cf_get 5 4 163 else cf_stuck)
       else
       (bif Nat.beq pc 163 then cf_iload 4 165 else cf_stuck))))
    else
    (bif Nat.ble pc 170 then
     (bif Nat.ble pc 166 then
      (bif Nat.ble pc 165 then
       (bif Nat.beq pc 165 then cf_iald 166 else cf_stuck)
       else
       (bif Nat.beq pc 166 then cf_bin (fun x y => x &&& y) 167 else cf_stuck))
      else
      (bif Nat.ble pc 167 then
       (bif Nat.beq pc 167 then cf_goto 197 else cf_stuck)
       else
       (bif Nat.beq pc 170 then cf_iload 5 172 else cf_stuck)))
     else
     (bif Nat.ble pc 173 then
      (bif Nat.ble pc 172 then
       (bif Nat.beq pc 172 then cf_const 1 173 else cf_stuck)
       else
       (bif Nat.beq pc 173 then cf_icne 193 176 else cf_stuck))
      else
      (bif Nat.ble pc 176 then
       (bif Nat.beq pc 176 then cf_aload 0 177 else cf_stuck)
       else
       (bif Nat.beq pc 177 then cf_get 5 20 180 else cf_stuck)))))
   else
   (bif Nat.ble pc 189 then
    (bif Nat.ble pc 184 then
     (bif Nat.ble pc 180 then
      (bif Nat.beq pc 180 then cf_aload 0 181 else cf_stuck)
      else
      (bif Nat.ble pc 181 then
       (bif Nat.beq pc 181 then cf_get 5 4 184 else cf_stuck)
       else
       (bif Nat.beq pc 184 then cf_iload 4 186 else cf_stuck)))
     else
     (bif Nat.ble pc 187 then
      (bif Nat.ble pc 186 then
       (bif Nat.beq pc 186 then cf_iald 187 else cf_stuck)
       else
       (bif Nat.beq pc 187 then cf_const (-1) 188 else cf_stuck))
      else
      (bif Nat.ble pc 188 then
       (bif Nat.beq pc 188 then cf_bin (fun x y => x ^^^ y) 189 else cf_stuck)
       else
       (bif Nat.beq pc 189 then cf_bin (fun x y => x &&& y) 190 else cf_stuck))))
    else
    (bif Nat.ble pc 197 then
     (bif Nat.ble pc 193 then
      (bif Nat.ble pc 190 then
       (bif Nat.beq pc 190 then cf_goto 197 else cf_stuck)
       else
       (bif Nat.beq pc 193 then cf_aload 0 194 else cf_stuck))
      else
      (bif Nat.ble pc 194 then
       (bif Nat.beq pc 194 then cf_get 5 20 197 else cf_stuck)
       else
       (bif Nat.beq pc 197 then cf_put 5 20 200 else cf_stuck)))
     else
     (bif Nat.ble pc 203 then
      (bif Nat.ble pc 200 then
       (bif Nat.beq pc 200 then cf_iinc 3 1 203 else cf_stuck)
       else
       (bif Nat.beq pc 203 then cf_goto 46 else cf_stuck))
      else
      (bif Nat.ble pc 206 then
       (bif Nat.beq pc 206 then cf_const 0 207 else cf_stuck)
       else
       (bif Nat.beq pc 207 then cf_iret else cf_stuck)))))))
noncomputable def F_P_halve : List cf_AV → cf_Wd → Option cf_Rs := cf_F T_P_halve 6 (some .boolean) (cf_shV 15 0)
theorem r_P_halve_0 {l1 l2 l3 l4 l5 : Option cf_AV} {k : Nat} {st : List cf_AV} {w : cf_Wd} {Q : cf_Rs → Prop} : cf_wp T_P_halve (0, [some (.inr k), l1, l2, l3, l4, l5], st, w) Q ↔ cf_wp T_P_halve (1, [some (.inr k), l1, l2, l3, l4, l5], .inr k :: st, w) Q := cf_w1 rfl
theorem r_P_halve_1 {l0 l1 l2 l3 l4 l5 : Option cf_AV} {st : List cf_AV} {w : cf_Wd} {Q : cf_Rs → Prop} : cf_wp T_P_halve (1, [l0, l1, l2, l3, l4, l5], .inr 15 :: st, w) Q ↔ cf_wp T_P_halve (4, [l0, l1, l2, l3, l4, l5], .inl (w 15 7) :: st, w) Q := cf_w1 rfl
theorem r_P_halve_4 {l0 l1 l2 l3 l4 l5 : Option cf_AV} {x : Int32} {st : List cf_AV} {w : cf_Wd} {Q : cf_Rs → Prop} : cf_wp T_P_halve (4, [l0, l1, l2, l3, l4, l5], .inl x :: st, w) Q ↔ cf_wp T_P_halve (5, [l0, some (.inl x), l2, l3, l4, l5], st, w) Q := cf_w1 rfl
theorem r_P_halve_5 {l0 l1 l2 l3 l4 l5 : Option cf_AV} {st : List cf_AV} {w : cf_Wd} {Q : cf_Rs → Prop} : cf_wp T_P_halve (5, [l0, l1, l2, l3, l4, l5], st, w) Q ↔ cf_wp T_P_halve (6, [l0, l1, l2, l3, l4, l5], .inl 1 :: st, w) Q := cf_w1 rfl
theorem r_P_halve_6 {l1 l2 l3 l4 l5 : Option cf_AV} {k : Nat} {st : List cf_AV} {w : cf_Wd} {Q : cf_Rs → Prop} : cf_wp T_P_halve (6, [some (.inr k), l1, l2, l3, l4, l5], st, w) Q ↔ cf_wp T_P_halve (7, [some (.inr k), l1, l2, l3, l4, l5], .inr k :: st, w) Q := cf_w1 rfl
theorem r_P_halve_7 {l0 l1 l2 l3 l4 l5 : Option cf_AV} {st : List cf_AV} {w : cf_Wd} {Q : cf_Rs → Prop} : cf_wp T_P_halve (7, [l0, l1, l2, l3, l4, l5], .inr 15 :: st, w) Q ↔ cf_wp T_P_halve (10, [l0, l1, l2, l3, l4, l5], .inl (w 15 7) :: st, w) Q := cf_w1 rfl
theorem r_P_halve_10 {l0 l1 l2 l3 l4 l5 : Option cf_AV} {x y : Int32} {st : List cf_AV} {w : cf_Wd} {Q : cf_Rs → Prop} : cf_wp T_P_halve (10, [l0, l1, l2, l3, l4, l5], .inl y :: .inl x :: st, w) Q ↔ cf_wp T_P_halve (11, [l0, l1, l2, l3, l4, l5], .inl (x <<< (y &&& 31)) :: st, w) Q := cf_w1 rfl
theorem r_P_halve_11 {l0 l1 l2 l3 l4 l5 : Option cf_AV} {st : List cf_AV} {w : cf_Wd} {Q : cf_Rs → Prop} : cf_wp T_P_halve (11, [l0, l1, l2, l3, l4, l5], st, w) Q ↔ cf_wp T_P_halve (12, [l0, l1, l2, l3, l4, l5], .inl 1 :: st, w) Q := cf_w1 rfl
theorem r_P_halve_12 {l1 l2 l3 l4 l5 : Option cf_AV} {k : Nat} {st : List cf_AV} {w : cf_Wd} {Q : cf_Rs → Prop} : cf_wp T_P_halve (12, [some (.inr k), l1, l2, l3, l4, l5], st, w) Q ↔ cf_wp T_P_halve (13, [some (.inr k), l1, l2, l3, l4, l5], .inr k :: st, w) Q := cf_w1 rfl
theorem r_P_halve_13 {l0 l1 l2 l3 l4 l5 : Option cf_AV} {st : List cf_AV} {w : cf_Wd} {Q : cf_Rs → Prop} : cf_wp T_P_halve (13, [l0, l1, l2, l3, l4, l5], .inr 15 :: st, w) Q ↔ cf_wp T_P_halve (16, [l0, l1, l2, l3, l4, l5], .inl (w 15 6) :: st, w) Q := cf_w1 rfl
theorem r_P_halve_16 {l0 l1 l2 l3 l4 l5 : Option cf_AV} {x y : Int32} {st : List cf_AV} {w : cf_Wd} {Q : cf_Rs → Prop} : cf_wp T_P_halve (16, [l0, l1, l2, l3, l4, l5], .inl y :: .inl x :: st, w) Q ↔ cf_wp T_P_halve (17, [l0, l1, l2, l3, l4, l5], .inl (x <<< (y &&& 31)) :: st, w) Q := cf_w1 rfl
theorem r_P_halve_17 {l0 l1 l2 l3 l4 l5 : Option cf_AV} {x y : Int32} {st : List cf_AV} {w : cf_Wd} {Q : cf_Rs → Prop} : cf_wp T_P_halve (17, [l0, l1, l2, l3, l4, l5], .inl y :: .inl x :: st, w) Q ↔ cf_wp T_P_halve (18, [l0, l1, l2, l3, l4, l5], .inl (x ||| y) :: st, w) Q := cf_w1 rfl
theorem r_P_halve_18 {l0 l1 l2 l3 l4 l5 : Option cf_AV} {x : Int32} {st : List cf_AV} {w : cf_Wd} {Q : cf_Rs → Prop} : cf_wp T_P_halve (18, [l0, l1, l2, l3, l4, l5], .inl x :: st, w) Q ↔ cf_wp T_P_halve (19, [l0, l1, some (.inl x), l3, l4, l5], st, w) Q := cf_w1 rfl
theorem r_P_halve_19 {l1 l2 l3 l4 l5 : Option cf_AV} {k : Nat} {st : List cf_AV} {w : cf_Wd} {Q : cf_Rs → Prop} : cf_wp T_P_halve (19, [some (.inr k), l1, l2, l3, l4, l5], st, w) Q ↔ cf_wp T_P_halve (20, [some (.inr k), l1, l2, l3, l4, l5], .inr k :: st, w) Q := cf_w1 rfl
theorem r_P_halve_20 {l1 l2 l3 l4 l5 : Option cf_AV} {k : Nat} {st : List cf_AV} {w : cf_Wd} {Q : cf_Rs → Prop} : cf_wp T_P_halve (20, [some (.inr k), l1, l2, l3, l4, l5], st, w) Q ↔ cf_wp T_P_halve (21, [some (.inr k), l1, l2, l3, l4, l5], .inr k :: st, w) Q := cf_w1 rfl
theorem r_P_halve_21 {l0 l1 l2 l3 l4 l5 : Option cf_AV} {st : List cf_AV} {w : cf_Wd} {Q : cf_Rs → Prop} : cf_wp T_P_halve (21, [l0, l1, l2, l3, l4, l5], .inr 15 :: st, w) Q ↔ cf_wp T_P_halve (24, [l0, l1, l2, l3, l4, l5], .inr 19 :: st, w) Q := cf_w1 rfl
theorem r_P_halve_24 {l1 l2 l3 l4 l5 : Option cf_AV} {k : Nat} {st : List cf_AV} {w : cf_Wd} {Q : cf_Rs → Prop} : cf_wp T_P_halve (24, [some (.inr k), l1, l2, l3, l4, l5], st, w) Q ↔ cf_wp T_P_halve (25, [some (.inr k), l1, l2, l3, l4, l5], .inr k :: st, w) Q := cf_w1 rfl
theorem r_P_halve_25 {l0 l1 l2 l3 l4 l5 : Option cf_AV} {st : List cf_AV} {w : cf_Wd} {Q : cf_Rs → Prop} : cf_wp T_P_halve (25, [l0, l1, l2, l3, l4, l5], .inr 15 :: st, w) Q ↔ cf_wp T_P_halve (28, [l0, l1, l2, l3, l4, l5], .inl (w 15 7) :: st, w) Q := cf_w1 rfl
theorem r_P_halve_28 {l0 l1 l2 l3 l4 l5 : Option cf_AV} {i : Int32} {st : List cf_AV} {w : cf_Wd} {Q : cf_Rs → Prop} : cf_wp T_P_halve (28, [l0, l1, l2, l3, l4, l5], .inl i :: .inr 19 :: st, w) Q ↔ (cf_in i 14 = true ∧ cf_wp T_P_halve (29, [l0, l1, l2, l3, l4, l5], .inl (w 19 i.toNatClampNeg) :: st, w) Q) := cf_wg rfl
theorem r_P_halve_29 {l1 l2 l3 l4 l5 : Option cf_AV} {k : Nat} {st : List cf_AV} {w : cf_Wd} {Q : cf_Rs → Prop} : cf_wp T_P_halve (29, [some (.inr k), l1, l2, l3, l4, l5], st, w) Q ↔ cf_wp T_P_halve (30, [some (.inr k), l1, l2, l3, l4, l5], .inr k :: st, w) Q := cf_w1 rfl
theorem r_P_halve_30 {l0 l1 l2 l3 l4 l5 : Option cf_AV} {st : List cf_AV} {w : cf_Wd} {Q : cf_Rs → Prop} : cf_wp T_P_halve (30, [l0, l1, l2, l3, l4, l5], .inr 15 :: st, w) Q ↔ cf_wp T_P_halve (33, [l0, l1, l2, l3, l4, l5], .inr 19 :: st, w) Q := cf_w1 rfl
theorem r_P_halve_33 {l1 l2 l3 l4 l5 : Option cf_AV} {k : Nat} {st : List cf_AV} {w : cf_Wd} {Q : cf_Rs → Prop} : cf_wp T_P_halve (33, [some (.inr k), l1, l2, l3, l4, l5], st, w) Q ↔ cf_wp T_P_halve (34, [some (.inr k), l1, l2, l3, l4, l5], .inr k :: st, w) Q := cf_w1 rfl
theorem r_P_halve_34 {l0 l1 l2 l3 l4 l5 : Option cf_AV} {st : List cf_AV} {w : cf_Wd} {Q : cf_Rs → Prop} : cf_wp T_P_halve (34, [l0, l1, l2, l3, l4, l5], .inr 15 :: st, w) Q ↔ cf_wp T_P_halve (37, [l0, l1, l2, l3, l4, l5], .inl (w 15 6) :: st, w) Q := cf_w1 rfl
theorem r_P_halve_37 {l0 l1 l2 l3 l4 l5 : Option cf_AV} {i : Int32} {st : List cf_AV} {w : cf_Wd} {Q : cf_Rs → Prop} : cf_wp T_P_halve (37, [l0, l1, l2, l3, l4, l5], .inl i :: .inr 19 :: st, w) Q ↔ (cf_in i 14 = true ∧ cf_wp T_P_halve (38, [l0, l1, l2, l3, l4, l5], .inl (w 19 i.toNatClampNeg) :: st, w) Q) := cf_wg rfl
theorem r_P_halve_38 {l0 l1 l2 l3 l4 l5 : Option cf_AV} {st : List cf_AV} {w : cf_Wd} {Q : cf_Rs → Prop} : cf_wp T_P_halve (38, [l0, l1, l2, l3, l4, l5], st, w) Q ↔ cf_wp T_P_halve (39, [l0, l1, l2, l3, l4, l5], .inl (-1) :: st, w) Q := cf_w1 rfl
theorem r_P_halve_39 {l0 l1 l2 l3 l4 l5 : Option cf_AV} {x y : Int32} {st : List cf_AV} {w : cf_Wd} {Q : cf_Rs → Prop} : cf_wp T_P_halve (39, [l0, l1, l2, l3, l4, l5], .inl y :: .inl x :: st, w) Q ↔ cf_wp T_P_halve (40, [l0, l1, l2, l3, l4, l5], .inl (x ^^^ y) :: st, w) Q := cf_w1 rfl
theorem r_P_halve_40 {l0 l1 l2 l3 l4 l5 : Option cf_AV} {x y : Int32} {st : List cf_AV} {w : cf_Wd} {Q : cf_Rs → Prop} : cf_wp T_P_halve (40, [l0, l1, l2, l3, l4, l5], .inl y :: .inl x :: st, w) Q ↔ cf_wp T_P_halve (41, [l0, l1, l2, l3, l4, l5], .inl (x &&& y) :: st, w) Q := cf_w1 rfl
theorem r_P_halve_41 {l0 l1 l2 l3 l4 l5 : Option cf_AV} {x : Int32} {st : List cf_AV} {w : cf_Wd} {Q : cf_Rs → Prop} : cf_wp T_P_halve (41, [l0, l1, l2, l3, l4, l5], .inl x :: .inr 15 :: st, w) Q ↔ cf_wp T_P_halve (44, [l0, l1, l2, l3, l4, l5], st, (cf_wa w 15 (upd (w 15) 20 x))) Q := cf_w1 rfl
theorem r_P_halve_44 {l0 l1 l2 l3 l4 l5 : Option cf_AV} {st : List cf_AV} {w : cf_Wd} {Q : cf_Rs → Prop} : cf_wp T_P_halve (44, [l0, l1, l2, l3, l4, l5], st, w) Q ↔ cf_wp T_P_halve (45, [l0, l1, l2, l3, l4, l5], .inl 0 :: st, w) Q := cf_w1 rfl
theorem r_P_halve_45 {l0 l1 l2 l3 l4 l5 : Option cf_AV} {x : Int32} {st : List cf_AV} {w : cf_Wd} {Q : cf_Rs → Prop} : cf_wp T_P_halve (45, [l0, l1, l2, l3, l4, l5], .inl x :: st, w) Q ↔ cf_wp T_P_halve (46, [l0, l1, l2, some (.inl x), l4, l5], st, w) Q := cf_w1 rfl
theorem r_P_halve_46 {l0 l1 l2 l4 l5 : Option cf_AV} {x : Int32} {st : List cf_AV} {w : cf_Wd} {Q : cf_Rs → Prop} : cf_wp T_P_halve (46, [l0, l1, l2, some (.inl x), l4, l5], st, w) Q ↔ cf_wp T_P_halve (47, [l0, l1, l2, some (.inl x), l4, l5], .inl x :: st, w) Q := cf_w1 rfl
theorem r_P_halve_47 {l0 l1 l2 l3 l4 l5 : Option cf_AV} {st : List cf_AV} {w : cf_Wd} {Q : cf_Rs → Prop} : cf_wp T_P_halve (47, [l0, l1, l2, l3, l4, l5], st, w) Q ↔ cf_wp T_P_halve (49, [l0, l1, l2, l3, l4, l5], .inl 16 :: st, w) Q := cf_w1 rfl
theorem r_P_halve_49 {l0 l1 l2 l3 l4 l5 : Option cf_AV} {x y : Int32} {st : List cf_AV} {w : cf_Wd} {Q : cf_Rs → Prop} : cf_wp T_P_halve (49, [l0, l1, l2, l3, l4, l5], .inl y :: .inl x :: st, w) Q ↔ (if y ≤ x then cf_wp T_P_halve (206, [l0, l1, l2, l3, l4, l5], st, w) Q else cf_wp T_P_halve (52, [l0, l1, l2, l3, l4, l5], st, w) Q) := cf_wi rfl
theorem r_P_halve_52 {l1 l2 l3 l4 l5 : Option cf_AV} {k : Nat} {st : List cf_AV} {w : cf_Wd} {Q : cf_Rs → Prop} : cf_wp T_P_halve (52, [some (.inr k), l1, l2, l3, l4, l5], st, w) Q ↔ cf_wp T_P_halve (53, [some (.inr k), l1, l2, l3, l4, l5], .inr k :: st, w) Q := cf_w1 rfl
theorem r_P_halve_53 {l0 l2 l3 l4 l5 : Option cf_AV} {x : Int32} {st : List cf_AV} {w : cf_Wd} {Q : cf_Rs → Prop} : cf_wp T_P_halve (53, [l0, some (.inl x), l2, l3, l4, l5], st, w) Q ↔ cf_wp T_P_halve (54, [l0, some (.inl x), l2, l3, l4, l5], .inl x :: st, w) Q := cf_w1 rfl
theorem r_P_halve_54 {l0 l1 l3 l4 l5 : Option cf_AV} {x : Int32} {st : List cf_AV} {w : cf_Wd} {Q : cf_Rs → Prop} : cf_wp T_P_halve (54, [l0, l1, some (.inl x), l3, l4, l5], st, w) Q ↔ cf_wp T_P_halve (55, [l0, l1, some (.inl x), l3, l4, l5], .inl x :: st, w) Q := cf_w1 rfl
theorem r_P_halve_55 {l0 l1 l2 l3 l4 l5 : Option cf_AV} {a2 a1 : Int32} {w : cf_Wd} {Q : cf_Rs → Prop} : cf_wp T_P_halve (55, [l0, l1, l2, l3, l4, l5], [.inl a2, .inl a1, .inr 15], w) Q ↔ ∃ x w1, F_P_middle [.inr 15, .inl a1, .inl a2] w = some (some (.inl x), w1) ∧ cf_wp T_P_halve (58, [l0, l1, l2, l3, l4, l5], [.inl x], w1) Q := cf_wci (n := 3) (F := F_P_middle) (nx := 58) rfl rfl cf_F_i
theorem c_P_halve_55 {l0 l1 l2 l3 l4 l5 : Option cf_AV} {a2 a1 : Int32} {x1 : Int32} {w1 : cf_Wd} {w : cf_Wd} {Q : cf_Rs → Prop} (hs : F_P_middle [.inr 15, .inl a1, .inl a2] w = some (some (.inl x1), w1)) : cf_wp T_P_halve (55, [l0, l1, l2, l3, l4, l5], [.inl a2, .inl a1, .inr 15], w) Q ↔ cf_wp T_P_halve (58, [l0, l1, l2, l3, l4, l5], [.inl x1], w1) Q := r_P_halve_55.trans (cf_xi hs)
theorem r_P_halve_58 {l0 l1 l2 l3 l4 l5 : Option cf_AV} {x : Int32} {st : List cf_AV} {w : cf_Wd} {Q : cf_Rs → Prop} : cf_wp T_P_halve (58, [l0, l1, l2, l3, l4, l5], .inl x :: st, w) Q ↔ cf_wp T_P_halve (60, [l0, l1, l2, l3, some (.inl x), l5], st, w) Q := cf_w1 rfl
theorem r_P_halve_60 {l0 l1 l2 l3 l5 : Option cf_AV} {x : Int32} {st : List cf_AV} {w : cf_Wd} {Q : cf_Rs → Prop} : cf_wp T_P_halve (60, [l0, l1, l2, l3, some (.inl x), l5], st, w) Q ↔ cf_wp T_P_halve (62, [l0, l1, l2, l3, some (.inl x), l5], .inl x :: st, w) Q := cf_w1 rfl
theorem r_P_halve_62 {l0 l1 l2 l3 l4 l5 : Option cf_AV} {x : Int32} {st : List cf_AV} {w : cf_Wd} {Q : cf_Rs → Prop} : cf_wp T_P_halve (62, [l0, l1, l2, l3, l4, l5], .inl x :: st, w) Q ↔ (if 0 ≤ x then cf_wp T_P_halve (113, [l0, l1, l2, l3, l4, l5], st, w) Q else cf_wp T_P_halve (65, [l0, l1, l2, l3, l4, l5], st, w) Q) := cf_wi rfl
theorem r_P_halve_65 {l1 l2 l3 l4 l5 : Option cf_AV} {k : Nat} {st : List cf_AV} {w : cf_Wd} {Q : cf_Rs → Prop} : cf_wp T_P_halve (65, [some (.inr k), l1, l2, l3, l4, l5], st, w) Q ↔ cf_wp T_P_halve (66, [some (.inr k), l1, l2, l3, l4, l5], .inr k :: st, w) Q := cf_w1 rfl
theorem r_P_halve_66 {l0 l1 l2 l3 l4 l5 : Option cf_AV} {st : List cf_AV} {w : cf_Wd} {Q : cf_Rs → Prop} : cf_wp T_P_halve (66, [l0, l1, l2, l3, l4, l5], .inr 15 :: st, w) Q ↔ cf_wp T_P_halve (69, [l0, l1, l2, l3, l4, l5], .inl (w 15 20) :: st, w) Q := cf_w1 rfl
theorem r_P_halve_69 {l0 l1 l2 l3 l4 l5 : Option cf_AV} {st : List cf_AV} {w : cf_Wd} {Q : cf_Rs → Prop} : cf_wp T_P_halve (69, [l0, l1, l2, l3, l4, l5], st, w) Q ↔ cf_wp T_P_halve (70, [l0, l1, l2, l3, l4, l5], .inl 1 :: st, w) Q := cf_w1 rfl
theorem r_P_halve_70 {l0 l2 l3 l4 l5 : Option cf_AV} {x : Int32} {st : List cf_AV} {w : cf_Wd} {Q : cf_Rs → Prop} : cf_wp T_P_halve (70, [l0, some (.inl x), l2, l3, l4, l5], st, w) Q ↔ cf_wp T_P_halve (71, [l0, some (.inl x), l2, l3, l4, l5], .inl x :: st, w) Q := cf_w1 rfl
theorem r_P_halve_71 {l0 l1 l2 l3 l4 l5 : Option cf_AV} {x y : Int32} {st : List cf_AV} {w : cf_Wd} {Q : cf_Rs → Prop} : cf_wp T_P_halve (71, [l0, l1, l2, l3, l4, l5], .inl y :: .inl x :: st, w) Q ↔ cf_wp T_P_halve (72, [l0, l1, l2, l3, l4, l5], .inl (x <<< (y &&& 31)) :: st, w) Q := cf_w1 rfl
theorem r_P_halve_72 {l0 l1 l2 l3 l4 l5 : Option cf_AV} {x y : Int32} {st : List cf_AV} {w : cf_Wd} {Q : cf_Rs → Prop} : cf_wp T_P_halve (72, [l0, l1, l2, l3, l4, l5], .inl y :: .inl x :: st, w) Q ↔ (if ¬ x = y then cf_wp T_P_halve (79, [l0, l1, l2, l3, l4, l5], st, w) Q else cf_wp T_P_halve (75, [l0, l1, l2, l3, l4, l5], st, w) Q) := cf_wi rfl
theorem r_P_halve_75 {l0 l1 l2 l3 l4 l5 : Option cf_AV} {st : List cf_AV} {w : cf_Wd} {Q : cf_Rs → Prop} : cf_wp T_P_halve (75, [l0, l1, l2, l3, l4, l5], st, w) Q ↔ cf_wp T_P_halve (76, [l0, l1, l2, l3, l4, l5], .inl 1 :: st, w) Q := cf_w1 rfl
theorem r_P_halve_76 {l0 l1 l2 l3 l4 l5 : Option cf_AV} {st : List cf_AV} {w : cf_Wd} {Q : cf_Rs → Prop} : cf_wp T_P_halve (76, [l0, l1, l2, l3, l4, l5], st, w) Q ↔ cf_wp T_P_halve (80, [l0, l1, l2, l3, l4, l5], st, w) Q := cf_w1 rfl
theorem r_P_halve_79 {l0 l1 l2 l3 l4 l5 : Option cf_AV} {st : List cf_AV} {w : cf_Wd} {Q : cf_Rs → Prop} : cf_wp T_P_halve (79, [l0, l1, l2, l3, l4, l5], st, w) Q ↔ cf_wp T_P_halve (80, [l0, l1, l2, l3, l4, l5], .inl 0 :: st, w) Q := cf_w1 rfl
theorem r_P_halve_80 {l0 l1 l2 l3 l4 l5 : Option cf_AV} {x : Int32} {st : List cf_AV} {w : cf_Wd} {Q : cf_Rs → Prop} : cf_wp T_P_halve (80, [l0, l1, l2, l3, l4, l5], .inl x :: st, w) Q ↔ cf_wp T_P_halve (82, [l0, l1, l2, l3, l4, some (.inl x)], st, w) Q := cf_w1 rfl
theorem r_P_halve_82 {l1 l2 l3 l4 l5 : Option cf_AV} {k : Nat} {st : List cf_AV} {w : cf_Wd} {Q : cf_Rs → Prop} : cf_wp T_P_halve (82, [some (.inr k), l1, l2, l3, l4, l5], st, w) Q ↔ cf_wp T_P_halve (83, [some (.inr k), l1, l2, l3, l4, l5], .inr k :: st, w) Q := cf_w1 rfl
theorem r_P_halve_83 {l0 l1 l2 l3 l4 : Option cf_AV} {x : Int32} {st : List cf_AV} {w : cf_Wd} {Q : cf_Rs → Prop} : cf_wp T_P_halve (83, [l0, l1, l2, l3, l4, some (.inl x)], st, w) Q ↔ cf_wp T_P_halve (85, [l0, l1, l2, l3, l4, some (.inl x)], .inl x :: st, w) Q := cf_w1 rfl
theorem r_P_halve_85 {l0 l1 l2 l3 l4 l5 : Option cf_AV} {x : Int32} {st : List cf_AV} {w : cf_Wd} {Q : cf_Rs → Prop} : cf_wp T_P_halve (85, [l0, l1, l2, l3, l4, l5], .inl x :: st, w) Q ↔ (if x = 0 then cf_wp T_P_halve (92, [l0, l1, l2, l3, l4, l5], st, w) Q else cf_wp T_P_halve (88, [l0, l1, l2, l3, l4, l5], st, w) Q) := cf_wi rfl
theorem r_P_halve_88 {l0 l2 l3 l4 l5 : Option cf_AV} {x : Int32} {st : List cf_AV} {w : cf_Wd} {Q : cf_Rs → Prop} : cf_wp T_P_halve (88, [l0, some (.inl x), l2, l3, l4, l5], st, w) Q ↔ cf_wp T_P_halve (89, [l0, some (.inl x), l2, l3, l4, l5], .inl x :: st, w) Q := cf_w1 rfl
theorem r_P_halve_89 {l0 l1 l2 l3 l4 l5 : Option cf_AV} {st : List cf_AV} {w : cf_Wd} {Q : cf_Rs → Prop} : cf_wp T_P_halve (89, [l0, l1, l2, l3, l4, l5], st, w) Q ↔ cf_wp T_P_halve (93, [l0, l1, l2, l3, l4, l5], st, w) Q := cf_w1 rfl
theorem r_P_halve_92 {l0 l1 l2 l3 l4 l5 : Option cf_AV} {st : List cf_AV} {w : cf_Wd} {Q : cf_Rs → Prop} : cf_wp T_P_halve (92, [l0, l1, l2, l3, l4, l5], st, w) Q ↔ cf_wp T_P_halve (93, [l0, l1, l2, l3, l4, l5], .inl (-1) :: st, w) Q := cf_w1 rfl
theorem r_P_halve_93 {l0 l1 l2 l3 l4 l5 : Option cf_AV} {x : Int32} {st : List cf_AV} {w : cf_Wd} {Q : cf_Rs → Prop} : cf_wp T_P_halve (93, [l0, l1, l2, l3, l4, l5], .inl x :: .inr 15 :: st, w) Q ↔ cf_wp T_P_halve (96, [l0, l1, l2, l3, l4, l5], st, (cf_wa w 15 (upd (w 15) 21 x))) Q := cf_w1 rfl
theorem r_P_halve_96 {l1 l2 l3 l4 l5 : Option cf_AV} {k : Nat} {st : List cf_AV} {w : cf_Wd} {Q : cf_Rs → Prop} : cf_wp T_P_halve (96, [some (.inr k), l1, l2, l3, l4, l5], st, w) Q ↔ cf_wp T_P_halve (97, [some (.inr k), l1, l2, l3, l4, l5], .inr k :: st, w) Q := cf_w1 rfl
theorem r_P_halve_97 {l0 l1 l2 l3 l4 : Option cf_AV} {x : Int32} {st : List cf_AV} {w : cf_Wd} {Q : cf_Rs → Prop} : cf_wp T_P_halve (97, [l0, l1, l2, l3, l4, some (.inl x)], st, w) Q ↔ cf_wp T_P_halve (99, [l0, l1, l2, l3, l4, some (.inl x)], .inl x :: st, w) Q := cf_w1 rfl
theorem r_P_halve_99 {l0 l1 l2 l3 l4 l5 : Option cf_AV} {x : Int32} {st : List cf_AV} {w : cf_Wd} {Q : cf_Rs → Prop} : cf_wp T_P_halve (99, [l0, l1, l2, l3, l4, l5], .inl x :: st, w) Q ↔ (if x = 0 then cf_wp T_P_halve (106, [l0, l1, l2, l3, l4, l5], st, w) Q else cf_wp T_P_halve (102, [l0, l1, l2, l3, l4, l5], st, w) Q) := cf_wi rfl
theorem r_P_halve_102 {l0 l1 l2 l3 l4 l5 : Option cf_AV} {st : List cf_AV} {w : cf_Wd} {Q : cf_Rs → Prop} : cf_wp T_P_halve (102, [l0, l1, l2, l3, l4, l5], st, w) Q ↔ cf_wp T_P_halve (103, [l0, l1, l2, l3, l4, l5], .inl 3 :: st, w) Q := cf_w1 rfl
theorem r_P_halve_103 {l0 l1 l2 l3 l4 l5 : Option cf_AV} {st : List cf_AV} {w : cf_Wd} {Q : cf_Rs → Prop} : cf_wp T_P_halve (103, [l0, l1, l2, l3, l4, l5], st, w) Q ↔ cf_wp T_P_halve (107, [l0, l1, l2, l3, l4, l5], st, w) Q := cf_w1 rfl
theorem r_P_halve_106 {l0 l1 l2 l3 l4 l5 : Option cf_AV} {st : List cf_AV} {w : cf_Wd} {Q : cf_Rs → Prop} : cf_wp T_P_halve (106, [l0, l1, l2, l3, l4, l5], st, w) Q ↔ cf_wp T_P_halve (107, [l0, l1, l2, l3, l4, l5], .inl 5 :: st, w) Q := cf_w1 rfl
theorem r_P_halve_107 {l0 l1 l2 l3 l4 l5 : Option cf_AV} {x : Int32} {st : List cf_AV} {w : cf_Wd} {Q : cf_Rs → Prop} : cf_wp T_P_halve (107, [l0, l1, l2, l3, l4, l5], .inl x :: .inr 15 :: st, w) Q ↔ cf_wp T_P_halve (110, [l0, l1, l2, l3, l4, l5], st, (cf_wa w 15 (upd (w 15) 18 x))) Q := cf_w1 rfl
theorem r_P_halve_110 {l0 l1 l2 l3 l4 : Option cf_AV} {x : Int32} {st : List cf_AV} {w : cf_Wd} {Q : cf_Rs → Prop} : cf_wp T_P_halve (110, [l0, l1, l2, l3, l4, some (.inl x)], st, w) Q ↔ cf_wp T_P_halve (112, [l0, l1, l2, l3, l4, some (.inl x)], .inl x :: st, w) Q := cf_w1 rfl
theorem r_P_halve_112 {l0 l1 l2 l3 l4 l5 : Option cf_AV} {x : Int32} {w : cf_Wd} {P : Int32 → cf_Wd → Prop} : cf_wp T_P_halve (112, [l0, l1, l2, l3, l4, l5], [.inl x], w) (cf_qb P) ↔ ((x = 0 ∨ x = 1) ∧ P x w) := Iff.trans (cf_wr (q := (some (.inl x), w)) rfl) Iff.rfl
theorem r_P_halve_113 {l1 l2 l3 l4 l5 : Option cf_AV} {k : Nat} {st : List cf_AV} {w : cf_Wd} {Q : cf_Rs → Prop} : cf_wp T_P_halve (113, [some (.inr k), l1, l2, l3, l4, l5], st, w) Q ↔ cf_wp T_P_halve (114, [some (.inr k), l1, l2, l3, l4, l5], .inr k :: st, w) Q := cf_w1 rfl
theorem r_P_halve_114 {l0 l1 l2 l3 l5 : Option cf_AV} {x : Int32} {st : List cf_AV} {w : cf_Wd} {Q : cf_Rs → Prop} : cf_wp T_P_halve (114, [l0, l1, l2, l3, some (.inl x), l5], st, w) Q ↔ cf_wp T_P_halve (116, [l0, l1, l2, l3, some (.inl x), l5], .inl x :: st, w) Q := cf_w1 rfl
theorem r_P_halve_116 {l0 l1 l2 l3 l4 l5 : Option cf_AV} {a1 : Int32} {w : cf_Wd} {Q : cf_Rs → Prop} : cf_wp T_P_halve (116, [l0, l1, l2, l3, l4, l5], [.inl a1, .inr 15], w) Q ↔ ∃ x w1, F_P_ask [.inr 15, .inl a1] w = some (some (.inl x), w1) ∧ cf_wp T_P_halve (119, [l0, l1, l2, l3, l4, l5], [.inl x], w1) Q := cf_wci (n := 2) (F := F_P_ask) (nx := 119) rfl rfl cf_F_i
theorem c_P_halve_116 {l0 l1 l2 l3 l4 l5 : Option cf_AV} {a1 : Int32} {x1 : Int32} {w1 : cf_Wd} {w : cf_Wd} {Q : cf_Rs → Prop} (hs : F_P_ask [.inr 15, .inl a1] w = some (some (.inl x1), w1)) : cf_wp T_P_halve (116, [l0, l1, l2, l3, l4, l5], [.inl a1, .inr 15], w) Q ↔ cf_wp T_P_halve (119, [l0, l1, l2, l3, l4, l5], [.inl x1], w1) Q := r_P_halve_116.trans (cf_xi hs)
theorem r_P_halve_119 {l0 l1 l2 l3 l4 l5 : Option cf_AV} {x : Int32} {st : List cf_AV} {w : cf_Wd} {Q : cf_Rs → Prop} : cf_wp T_P_halve (119, [l0, l1, l2, l3, l4, l5], .inl x :: st, w) Q ↔ cf_wp T_P_halve (121, [l0, l1, l2, l3, l4, some (.inl x)], st, w) Q := cf_w1 rfl
theorem r_P_halve_121 {l0 l1 l2 l3 l4 : Option cf_AV} {x : Int32} {st : List cf_AV} {w : cf_Wd} {Q : cf_Rs → Prop} : cf_wp T_P_halve (121, [l0, l1, l2, l3, l4, some (.inl x)], st, w) Q ↔ cf_wp T_P_halve (123, [l0, l1, l2, l3, l4, some (.inl x)], .inl x :: st, w) Q := cf_w1 rfl
theorem r_P_halve_123 {l0 l1 l2 l3 l4 l5 : Option cf_AV} {x : Int32} {st : List cf_AV} {w : cf_Wd} {Q : cf_Rs → Prop} : cf_wp T_P_halve (123, [l0, l1, l2, l3, l4, l5], .inl x :: st, w) Q ↔ (if ¬ x = 0 then cf_wp T_P_halve (128, [l0, l1, l2, l3, l4, l5], st, w) Q else cf_wp T_P_halve (126, [l0, l1, l2, l3, l4, l5], st, w) Q) := cf_wi rfl
theorem r_P_halve_126 {l0 l1 l2 l3 l4 l5 : Option cf_AV} {st : List cf_AV} {w : cf_Wd} {Q : cf_Rs → Prop} : cf_wp T_P_halve (126, [l0, l1, l2, l3, l4, l5], st, w) Q ↔ cf_wp T_P_halve (127, [l0, l1, l2, l3, l4, l5], .inl 0 :: st, w) Q := cf_w1 rfl
theorem r_P_halve_127 {l0 l1 l2 l3 l4 l5 : Option cf_AV} {x : Int32} {w : cf_Wd} {P : Int32 → cf_Wd → Prop} : cf_wp T_P_halve (127, [l0, l1, l2, l3, l4, l5], [.inl x], w) (cf_qb P) ↔ ((x = 0 ∨ x = 1) ∧ P x w) := Iff.trans (cf_wr (q := (some (.inl x), w)) rfl) Iff.rfl
theorem r_P_halve_128 {l0 l1 l3 l4 l5 : Option cf_AV} {x : Int32} {st : List cf_AV} {w : cf_Wd} {Q : cf_Rs → Prop} : cf_wp T_P_halve (128, [l0, l1, some (.inl x), l3, l4, l5], st, w) Q ↔ cf_wp T_P_halve (129, [l0, l1, some (.inl x), l3, l4, l5], .inl x :: st, w) Q := cf_w1 rfl
theorem r_P_halve_129 {l0 l1 l2 l3 l4 l5 : Option cf_AV} {st : List cf_AV} {w : cf_Wd} {Q : cf_Rs → Prop} : cf_wp T_P_halve (129, [l0, l1, l2, l3, l4, l5], st, w) Q ↔ cf_wp T_P_halve (130, [l0, l1, l2, l3, l4, l5], .inl 1 :: st, w) Q := cf_w1 rfl
theorem r_P_halve_130 {l0 l1 l2 l3 l5 : Option cf_AV} {x : Int32} {st : List cf_AV} {w : cf_Wd} {Q : cf_Rs → Prop} : cf_wp T_P_halve (130, [l0, l1, l2, l3, some (.inl x), l5], st, w) Q ↔ cf_wp T_P_halve (132, [l0, l1, l2, l3, some (.inl x), l5], .inl x :: st, w) Q := cf_w1 rfl
theorem r_P_halve_132 {l0 l1 l2 l3 l4 l5 : Option cf_AV} {x y : Int32} {st : List cf_AV} {w : cf_Wd} {Q : cf_Rs → Prop} : cf_wp T_P_halve (132, [l0, l1, l2, l3, l4, l5], .inl y :: .inl x :: st, w) Q ↔ cf_wp T_P_halve (133, [l0, l1, l2, l3, l4, l5], .inl (x <<< (y &&& 31)) :: st, w) Q := cf_w1 rfl
theorem r_P_halve_133 {l0 l1 l2 l3 l4 l5 : Option cf_AV} {x y : Int32} {st : List cf_AV} {w : cf_Wd} {Q : cf_Rs → Prop} : cf_wp T_P_halve (133, [l0, l1, l2, l3, l4, l5], .inl y :: .inl x :: st, w) Q ↔ cf_wp T_P_halve (134, [l0, l1, l2, l3, l4, l5], .inl (x ||| y) :: st, w) Q := cf_w1 rfl
theorem r_P_halve_134 {l0 l1 l2 l3 l4 l5 : Option cf_AV} {x : Int32} {st : List cf_AV} {w : cf_Wd} {Q : cf_Rs → Prop} : cf_wp T_P_halve (134, [l0, l1, l2, l3, l4, l5], .inl x :: st, w) Q ↔ cf_wp T_P_halve (135, [l0, l1, some (.inl x), l3, l4, l5], st, w) Q := cf_w1 rfl
theorem r_P_halve_135 {l0 l1 l2 l3 l4 : Option cf_AV} {x : Int32} {st : List cf_AV} {w : cf_Wd} {Q : cf_Rs → Prop} : cf_wp T_P_halve (135, [l0, l1, l2, l3, l4, some (.inl x)], st, w) Q ↔ cf_wp T_P_halve (137, [l0, l1, l2, l3, l4, some (.inl x)], .inl x :: st, w) Q := cf_w1 rfl
theorem r_P_halve_137 {l0 l1 l2 l3 l4 l5 : Option cf_AV} {st : List cf_AV} {w : cf_Wd} {Q : cf_Rs → Prop} : cf_wp T_P_halve (137, [l0, l1, l2, l3, l4, l5], st, w) Q ↔ cf_wp T_P_halve (138, [l0, l1, l2, l3, l4, l5], .inl 2 :: st, w) Q := cf_w1 rfl
theorem r_P_halve_138 {l0 l1 l2 l3 l4 l5 : Option cf_AV} {x y : Int32} {st : List cf_AV} {w : cf_Wd} {Q : cf_Rs → Prop} : cf_wp T_P_halve (138, [l0, l1, l2, l3, l4, l5], .inl y :: .inl x :: st, w) Q ↔ (if ¬ x = y then cf_wp T_P_halve (146, [l0, l1, l2, l3, l4, l5], st, w) Q else cf_wp T_P_halve (141, [l0, l1, l2, l3, l4, l5], st, w) Q) := cf_wi rfl
theorem r_P_halve_141 {l0 l1 l2 l3 l5 : Option cf_AV} {x : Int32} {st : List cf_AV} {w : cf_Wd} {Q : cf_Rs → Prop} : cf_wp T_P_halve (141, [l0, l1, l2, l3, some (.inl x), l5], st, w) Q ↔ cf_wp T_P_halve (143, [l0, l1, l2, l3, some (.inl x), l5], .inl x :: st, w) Q := cf_w1 rfl
theorem r_P_halve_143 {l0 l1 l2 l3 l4 l5 : Option cf_AV} {st : List cf_AV} {w : cf_Wd} {Q : cf_Rs → Prop} : cf_wp T_P_halve (143, [l0, l1, l2, l3, l4, l5], st, w) Q ↔ cf_wp T_P_halve (147, [l0, l1, l2, l3, l4, l5], st, w) Q := cf_w1 rfl
theorem r_P_halve_146 {l0 l2 l3 l4 l5 : Option cf_AV} {x : Int32} {st : List cf_AV} {w : cf_Wd} {Q : cf_Rs → Prop} : cf_wp T_P_halve (146, [l0, some (.inl x), l2, l3, l4, l5], st, w) Q ↔ cf_wp T_P_halve (147, [l0, some (.inl x), l2, l3, l4, l5], .inl x :: st, w) Q := cf_w1 rfl
theorem r_P_halve_147 {l0 l1 l2 l3 l4 l5 : Option cf_AV} {x : Int32} {st : List cf_AV} {w : cf_Wd} {Q : cf_Rs → Prop} : cf_wp T_P_halve (147, [l0, l1, l2, l3, l4, l5], .inl x :: st, w) Q ↔ cf_wp T_P_halve (148, [l0, some (.inl x), l2, l3, l4, l5], st, w) Q := cf_w1 rfl
theorem r_P_halve_148 {l1 l2 l3 l4 l5 : Option cf_AV} {k : Nat} {st : List cf_AV} {w : cf_Wd} {Q : cf_Rs → Prop} : cf_wp T_P_halve (148, [some (.inr k), l1, l2, l3, l4, l5], st, w) Q ↔ cf_wp T_P_halve (149, [some (.inr k), l1, l2, l3, l4, l5], .inr k :: st, w) Q := cf_w1 rfl
theorem r_P_halve_149 {l0 l1 l2 l3 l4 : Option cf_AV} {x : Int32} {st : List cf_AV} {w : cf_Wd} {Q : cf_Rs → Prop} : cf_wp T_P_halve (149, [l0, l1, l2, l3, l4, some (.inl x)], st, w) Q ↔ cf_wp T_P_halve (151, [l0, l1, l2, l3, l4, some (.inl x)], .inl x :: st, w) Q := cf_w1 rfl
theorem r_P_halve_151 {l0 l1 l2 l3 l4 l5 : Option cf_AV} {st : List cf_AV} {w : cf_Wd} {Q : cf_Rs → Prop} : cf_wp T_P_halve (151, [l0, l1, l2, l3, l4, l5], st, w) Q ↔ cf_wp T_P_halve (152, [l0, l1, l2, l3, l4, l5], .inl 2 :: st, w) Q := cf_w1 rfl
theorem r_P_halve_152 {l0 l1 l2 l3 l4 l5 : Option cf_AV} {x y : Int32} {st : List cf_AV} {w : cf_Wd} {Q : cf_Rs → Prop} : cf_wp T_P_halve (152, [l0, l1, l2, l3, l4, l5], .inl y :: .inl x :: st, w) Q ↔ (if ¬ x = y then cf_wp T_P_halve (170, [l0, l1, l2, l3, l4, l5], st, w) Q else cf_wp T_P_halve (155, [l0, l1, l2, l3, l4, l5], st, w) Q) := cf_wi rfl
theorem r_P_halve_155 {l1 l2 l3 l4 l5 : Option cf_AV} {k : Nat} {st : List cf_AV} {w : cf_Wd} {Q : cf_Rs → Prop} : cf_wp T_P_halve (155, [some (.inr k), l1, l2, l3, l4, l5], st, w) Q ↔ cf_wp T_P_halve (156, [some (.inr k), l1, l2, l3, l4, l5], .inr k :: st, w) Q := cf_w1 rfl
theorem r_P_halve_156 {l0 l1 l2 l3 l4 l5 : Option cf_AV} {st : List cf_AV} {w : cf_Wd} {Q : cf_Rs → Prop} : cf_wp T_P_halve (156, [l0, l1, l2, l3, l4, l5], .inr 15 :: st, w) Q ↔ cf_wp T_P_halve (159, [l0, l1, l2, l3, l4, l5], .inl (w 15 20) :: st, w) Q := cf_w1 rfl
theorem r_P_halve_159 {l1 l2 l3 l4 l5 : Option cf_AV} {k : Nat} {st : List cf_AV} {w : cf_Wd} {Q : cf_Rs → Prop} : cf_wp T_P_halve (159, [some (.inr k), l1, l2, l3, l4, l5], st, w) Q ↔ cf_wp T_P_halve (160, [some (.inr k), l1, l2, l3, l4, l5], .inr k :: st, w) Q := cf_w1 rfl
theorem r_P_halve_160 {l0 l1 l2 l3 l4 l5 : Option cf_AV} {st : List cf_AV} {w : cf_Wd} {Q : cf_Rs → Prop} : cf_wp T_P_halve (160, [l0, l1, l2, l3, l4, l5], .inr 15 :: st, w) Q ↔ cf_wp T_P_halve (163, [l0, l1, l2, l3, l4, l5], .inr 19 :: st, w) Q := cf_w1 rfl
theorem r_P_halve_163 {l0 l1 l2 l3 l5 : Option cf_AV} {x : Int32} {st : List cf_AV} {w : cf_Wd} {Q : cf_Rs → Prop} : cf_wp T_P_halve (163, [l0, l1, l2, l3, some (.inl x), l5], st, w) Q ↔ cf_wp T_P_halve (165, [l0, l1, l2, l3, some (.inl x), l5], .inl x :: st, w) Q := cf_w1 rfl
theorem r_P_halve_165 {l0 l1 l2 l3 l4 l5 : Option cf_AV} {i : Int32} {st : List cf_AV} {w : cf_Wd} {Q : cf_Rs → Prop} : cf_wp T_P_halve (165, [l0, l1, l2, l3, l4, l5], .inl i :: .inr 19 :: st, w) Q ↔ (cf_in i 14 = true ∧ cf_wp T_P_halve (166, [l0, l1, l2, l3, l4, l5], .inl (w 19 i.toNatClampNeg) :: st, w) Q) := cf_wg rfl
theorem r_P_halve_166 {l0 l1 l2 l3 l4 l5 : Option cf_AV} {x y : Int32} {st : List cf_AV} {w : cf_Wd} {Q : cf_Rs → Prop} : cf_wp T_P_halve (166, [l0, l1, l2, l3, l4, l5], .inl y :: .inl x :: st, w) Q ↔ cf_wp T_P_halve (167, [l0, l1, l2, l3, l4, l5], .inl (x &&& y) :: st, w) Q := cf_w1 rfl
theorem r_P_halve_167 {l0 l1 l2 l3 l4 l5 : Option cf_AV} {st : List cf_AV} {w : cf_Wd} {Q : cf_Rs → Prop} : cf_wp T_P_halve (167, [l0, l1, l2, l3, l4, l5], st, w) Q ↔ cf_wp T_P_halve (197, [l0, l1, l2, l3, l4, l5], st, w) Q := cf_w1 rfl
theorem r_P_halve_170 {l0 l1 l2 l3 l4 : Option cf_AV} {x : Int32} {st : List cf_AV} {w : cf_Wd} {Q : cf_Rs → Prop} : cf_wp T_P_halve (170, [l0, l1, l2, l3, l4, some (.inl x)], st, w) Q ↔ cf_wp T_P_halve (172, [l0, l1, l2, l3, l4, some (.inl x)], .inl x :: st, w) Q := cf_w1 rfl
theorem r_P_halve_172 {l0 l1 l2 l3 l4 l5 : Option cf_AV} {st : List cf_AV} {w : cf_Wd} {Q : cf_Rs → Prop} : cf_wp T_P_halve (172, [l0, l1, l2, l3, l4, l5], st, w) Q ↔ cf_wp T_P_halve (173, [l0, l1, l2, l3, l4, l5], .inl 1 :: st, w) Q := cf_w1 rfl
theorem r_P_halve_173 {l0 l1 l2 l3 l4 l5 : Option cf_AV} {x y : Int32} {st : List cf_AV} {w : cf_Wd} {Q : cf_Rs → Prop} : cf_wp T_P_halve (173, [l0, l1, l2, l3, l4, l5], .inl y :: .inl x :: st, w) Q ↔ (if ¬ x = y then cf_wp T_P_halve (193, [l0, l1, l2, l3, l4, l5], st, w) Q else cf_wp T_P_halve (176, [l0, l1, l2, l3, l4, l5], st, w) Q) := cf_wi rfl
theorem r_P_halve_176 {l1 l2 l3 l4 l5 : Option cf_AV} {k : Nat} {st : List cf_AV} {w : cf_Wd} {Q : cf_Rs → Prop} : cf_wp T_P_halve (176, [some (.inr k), l1, l2, l3, l4, l5], st, w) Q ↔ cf_wp T_P_halve (177, [some (.inr k), l1, l2, l3, l4, l5], .inr k :: st, w) Q := cf_w1 rfl
theorem r_P_halve_177 {l0 l1 l2 l3 l4 l5 : Option cf_AV} {st : List cf_AV} {w : cf_Wd} {Q : cf_Rs → Prop} : cf_wp T_P_halve (177, [l0, l1, l2, l3, l4, l5], .inr 15 :: st, w) Q ↔ cf_wp T_P_halve (180, [l0, l1, l2, l3, l4, l5], .inl (w 15 20) :: st, w) Q := cf_w1 rfl
theorem r_P_halve_180 {l1 l2 l3 l4 l5 : Option cf_AV} {k : Nat} {st : List cf_AV} {w : cf_Wd} {Q : cf_Rs → Prop} : cf_wp T_P_halve (180, [some (.inr k), l1, l2, l3, l4, l5], st, w) Q ↔ cf_wp T_P_halve (181, [some (.inr k), l1, l2, l3, l4, l5], .inr k :: st, w) Q := cf_w1 rfl
theorem r_P_halve_181 {l0 l1 l2 l3 l4 l5 : Option cf_AV} {st : List cf_AV} {w : cf_Wd} {Q : cf_Rs → Prop} : cf_wp T_P_halve (181, [l0, l1, l2, l3, l4, l5], .inr 15 :: st, w) Q ↔ cf_wp T_P_halve (184, [l0, l1, l2, l3, l4, l5], .inr 19 :: st, w) Q := cf_w1 rfl
theorem r_P_halve_184 {l0 l1 l2 l3 l5 : Option cf_AV} {x : Int32} {st : List cf_AV} {w : cf_Wd} {Q : cf_Rs → Prop} : cf_wp T_P_halve (184, [l0, l1, l2, l3, some (.inl x), l5], st, w) Q ↔ cf_wp T_P_halve (186, [l0, l1, l2, l3, some (.inl x), l5], .inl x :: st, w) Q := cf_w1 rfl
theorem r_P_halve_186 {l0 l1 l2 l3 l4 l5 : Option cf_AV} {i : Int32} {st : List cf_AV} {w : cf_Wd} {Q : cf_Rs → Prop} : cf_wp T_P_halve (186, [l0, l1, l2, l3, l4, l5], .inl i :: .inr 19 :: st, w) Q ↔ (cf_in i 14 = true ∧ cf_wp T_P_halve (187, [l0, l1, l2, l3, l4, l5], .inl (w 19 i.toNatClampNeg) :: st, w) Q) := cf_wg rfl
theorem r_P_halve_187 {l0 l1 l2 l3 l4 l5 : Option cf_AV} {st : List cf_AV} {w : cf_Wd} {Q : cf_Rs → Prop} : cf_wp T_P_halve (187, [l0, l1, l2, l3, l4, l5], st, w) Q ↔ cf_wp T_P_halve (188, [l0, l1, l2, l3, l4, l5], .inl (-1) :: st, w) Q := cf_w1 rfl
theorem r_P_halve_188 {l0 l1 l2 l3 l4 l5 : Option cf_AV} {x y : Int32} {st : List cf_AV} {w : cf_Wd} {Q : cf_Rs → Prop} : cf_wp T_P_halve (188, [l0, l1, l2, l3, l4, l5], .inl y :: .inl x :: st, w) Q ↔ cf_wp T_P_halve (189, [l0, l1, l2, l3, l4, l5], .inl (x ^^^ y) :: st, w) Q := cf_w1 rfl
theorem r_P_halve_189 {l0 l1 l2 l3 l4 l5 : Option cf_AV} {x y : Int32} {st : List cf_AV} {w : cf_Wd} {Q : cf_Rs → Prop} : cf_wp T_P_halve (189, [l0, l1, l2, l3, l4, l5], .inl y :: .inl x :: st, w) Q ↔ cf_wp T_P_halve (190, [l0, l1, l2, l3, l4, l5], .inl (x &&& y) :: st, w) Q := cf_w1 rfl
theorem r_P_halve_190 {l0 l1 l2 l3 l4 l5 : Option cf_AV} {st : List cf_AV} {w : cf_Wd} {Q : cf_Rs → Prop} : cf_wp T_P_halve (190, [l0, l1, l2, l3, l4, l5], st, w) Q ↔ cf_wp T_P_halve (197, [l0, l1, l2, l3, l4, l5], st, w) Q := cf_w1 rfl
theorem r_P_halve_193 {l1 l2 l3 l4 l5 : Option cf_AV} {k : Nat} {st : List cf_AV} {w : cf_Wd} {Q : cf_Rs → Prop} : cf_wp T_P_halve (193, [some (.inr k), l1, l2, l3, l4, l5], st, w) Q ↔ cf_wp T_P_halve (194, [some (.inr k), l1, l2, l3, l4, l5], .inr k :: st, w) Q := cf_w1 rfl
theorem r_P_halve_194 {l0 l1 l2 l3 l4 l5 : Option cf_AV} {st : List cf_AV} {w : cf_Wd} {Q : cf_Rs → Prop} : cf_wp T_P_halve (194, [l0, l1, l2, l3, l4, l5], .inr 15 :: st, w) Q ↔ cf_wp T_P_halve (197, [l0, l1, l2, l3, l4, l5], .inl (w 15 20) :: st, w) Q := cf_w1 rfl
theorem r_P_halve_197 {l0 l1 l2 l3 l4 l5 : Option cf_AV} {x : Int32} {st : List cf_AV} {w : cf_Wd} {Q : cf_Rs → Prop} : cf_wp T_P_halve (197, [l0, l1, l2, l3, l4, l5], .inl x :: .inr 15 :: st, w) Q ↔ cf_wp T_P_halve (200, [l0, l1, l2, l3, l4, l5], st, (cf_wa w 15 (upd (w 15) 20 x))) Q := cf_w1 rfl
theorem r_P_halve_200 {l0 l1 l2 l4 l5 : Option cf_AV} {x : Int32} {st : List cf_AV} {w : cf_Wd} {Q : cf_Rs → Prop} : cf_wp T_P_halve (200, [l0, l1, l2, some (.inl x), l4, l5], st, w) Q ↔ cf_wp T_P_halve (203, [l0, l1, l2, some (.inl (x + 1)), l4, l5], st, w) Q := cf_w1 rfl
theorem r_P_halve_203 {l0 l1 l2 l3 l4 l5 : Option cf_AV} {st : List cf_AV} {w : cf_Wd} {Q : cf_Rs → Prop} : cf_wp T_P_halve (203, [l0, l1, l2, l3, l4, l5], st, w) Q ↔ cf_wp T_P_halve (46, [l0, l1, l2, l3, l4, l5], st, w) Q := cf_w1 rfl
theorem r_P_halve_206 {l0 l1 l2 l3 l4 l5 : Option cf_AV} {st : List cf_AV} {w : cf_Wd} {Q : cf_Rs → Prop} : cf_wp T_P_halve (206, [l0, l1, l2, l3, l4, l5], st, w) Q ↔ cf_wp T_P_halve (207, [l0, l1, l2, l3, l4, l5], .inl 0 :: st, w) Q := cf_w1 rfl
theorem r_P_halve_207 {l0 l1 l2 l3 l4 l5 : Option cf_AV} {x : Int32} {w : cf_Wd} {P : Int32 → cf_Wd → Prop} : cf_wp T_P_halve (207, [l0, l1, l2, l3, l4, l5], [.inl x], w) (cf_qb P) ↔ ((x = 0 ∨ x = 1) ∧ P x w) := Iff.trans (cf_wr (q := (some (.inl x), w)) rfl) Iff.rfl
theorem e_P_halve {w : cf_Wd} {P : Int32 → cf_Wd → Prop} (h : cf_wp T_P_halve (0, [some (.inr 15), none, none, none, none, none], [], w) (cf_qb P)) : ∃ x w1, F_P_halve [.inr 15] w = some (some (.inl x), w1) ∧ P x w1 := cf_eb rfl (Nat.le_of_ble_eq_true rfl) h
noncomputable def T_P_askSet (pc : Nat) : cf_Rw := bif Nat.ble pc 6 then
 (bif Nat.ble pc 1 then
  (bif Nat.ble pc 0 then
   (bif Nat.beq pc 0 then cf_iload 1 1 else cf_stuck)
   else
   (bif Nat.beq pc 1 then cf_iload 2 2 else cf_stuck))
  else
  (bif Nat.ble pc 2 then
   (bif Nat.beq pc 2 then cf_icne 9 5 else cf_stuck)
   else
   (bif Nat.ble pc 5 then
    (bif Nat.beq pc 5 then cf_const 2 6 else cf_stuck)
    else
    (bif Nat.beq pc 6 then cf_goto 18 else cf_stuck))))
 else
 (bif Nat.ble pc 13 then
  (bif Nat.ble pc 9 then
   (bif Nat.beq pc 9 then cf_aload 0 10 else cf_stuck)
   else
   (bif Nat.ble pc 10 then
    (bif Nat.beq pc 10 then cf_const 1000 13 else cf_stuck)
    else
    (bif Nat.beq pc 13 then cf_iload 1 14 else cf_stuck)))
  else
  (bif Nat.ble pc 14 then
   (bif Nat.beq pc 14 then cf_bin (fun x y => x + y) 15 else cf_stuck)
   else
   (bif Nat.ble pc 15 then
    (bif Nat.beq pc 15 then cf_call 2 F_P_ask 18 else cf_stuck)
    else
    (bif Nat.beq pc 18 then cf_iret else cf_stuck))))
noncomputable def F_P_askSet : List cf_AV → cf_Wd → Option cf_Rs := cf_F T_P_askSet 3 (some .int) (cf_shV 15 2)
theorem r_P_askSet_0 {l0 l2 : Option cf_AV} {x : Int32} {st : List cf_AV} {w : cf_Wd} {Q : cf_Rs → Prop} : cf_wp T_P_askSet (0, [l0, some (.inl x), l2], st, w) Q ↔ cf_wp T_P_askSet (1, [l0, some (.inl x), l2], .inl x :: st, w) Q := cf_w1 rfl
theorem r_P_askSet_1 {l0 l1 : Option cf_AV} {x : Int32} {st : List cf_AV} {w : cf_Wd} {Q : cf_Rs → Prop} : cf_wp T_P_askSet (1, [l0, l1, some (.inl x)], st, w) Q ↔ cf_wp T_P_askSet (2, [l0, l1, some (.inl x)], .inl x :: st, w) Q := cf_w1 rfl
theorem r_P_askSet_2 {l0 l1 l2 : Option cf_AV} {x y : Int32} {st : List cf_AV} {w : cf_Wd} {Q : cf_Rs → Prop} : cf_wp T_P_askSet (2, [l0, l1, l2], .inl y :: .inl x :: st, w) Q ↔ (if ¬ x = y then cf_wp T_P_askSet (9, [l0, l1, l2], st, w) Q else cf_wp T_P_askSet (5, [l0, l1, l2], st, w) Q) := cf_wi rfl
theorem r_P_askSet_5 {l0 l1 l2 : Option cf_AV} {st : List cf_AV} {w : cf_Wd} {Q : cf_Rs → Prop} : cf_wp T_P_askSet (5, [l0, l1, l2], st, w) Q ↔ cf_wp T_P_askSet (6, [l0, l1, l2], .inl 2 :: st, w) Q := cf_w1 rfl
theorem r_P_askSet_6 {l0 l1 l2 : Option cf_AV} {st : List cf_AV} {w : cf_Wd} {Q : cf_Rs → Prop} : cf_wp T_P_askSet (6, [l0, l1, l2], st, w) Q ↔ cf_wp T_P_askSet (18, [l0, l1, l2], st, w) Q := cf_w1 rfl
theorem r_P_askSet_9 {l1 l2 : Option cf_AV} {k : Nat} {st : List cf_AV} {w : cf_Wd} {Q : cf_Rs → Prop} : cf_wp T_P_askSet (9, [some (.inr k), l1, l2], st, w) Q ↔ cf_wp T_P_askSet (10, [some (.inr k), l1, l2], .inr k :: st, w) Q := cf_w1 rfl
theorem r_P_askSet_10 {l0 l1 l2 : Option cf_AV} {st : List cf_AV} {w : cf_Wd} {Q : cf_Rs → Prop} : cf_wp T_P_askSet (10, [l0, l1, l2], st, w) Q ↔ cf_wp T_P_askSet (13, [l0, l1, l2], .inl 1000 :: st, w) Q := cf_w1 rfl
theorem r_P_askSet_13 {l0 l2 : Option cf_AV} {x : Int32} {st : List cf_AV} {w : cf_Wd} {Q : cf_Rs → Prop} : cf_wp T_P_askSet (13, [l0, some (.inl x), l2], st, w) Q ↔ cf_wp T_P_askSet (14, [l0, some (.inl x), l2], .inl x :: st, w) Q := cf_w1 rfl
theorem r_P_askSet_14 {l0 l1 l2 : Option cf_AV} {x y : Int32} {st : List cf_AV} {w : cf_Wd} {Q : cf_Rs → Prop} : cf_wp T_P_askSet (14, [l0, l1, l2], .inl y :: .inl x :: st, w) Q ↔ cf_wp T_P_askSet (15, [l0, l1, l2], .inl (x + y) :: st, w) Q := cf_w1 rfl
theorem r_P_askSet_15 {l0 l1 l2 : Option cf_AV} {a1 : Int32} {w : cf_Wd} {Q : cf_Rs → Prop} : cf_wp T_P_askSet (15, [l0, l1, l2], [.inl a1, .inr 15], w) Q ↔ ∃ x w1, F_P_ask [.inr 15, .inl a1] w = some (some (.inl x), w1) ∧ cf_wp T_P_askSet (18, [l0, l1, l2], [.inl x], w1) Q := cf_wci (n := 2) (F := F_P_ask) (nx := 18) rfl rfl cf_F_i
theorem c_P_askSet_15 {l0 l1 l2 : Option cf_AV} {a1 : Int32} {x1 : Int32} {w1 : cf_Wd} {w : cf_Wd} {Q : cf_Rs → Prop} (hs : F_P_ask [.inr 15, .inl a1] w = some (some (.inl x1), w1)) : cf_wp T_P_askSet (15, [l0, l1, l2], [.inl a1, .inr 15], w) Q ↔ cf_wp T_P_askSet (18, [l0, l1, l2], [.inl x1], w1) Q := r_P_askSet_15.trans (cf_xi hs)
theorem r_P_askSet_18 {l0 l1 l2 : Option cf_AV} {x : Int32} {w : cf_Wd} {P : Int32 → cf_Wd → Prop} : cf_wp T_P_askSet (18, [l0, l1, l2], [.inl x], w) (cf_qi P) ↔ P x w := Iff.trans (cf_wr (q := (some (.inl x), w)) rfl) Iff.rfl
theorem e_P_askSet {a1 a2 : Int32} {w : cf_Wd} {P : Int32 → cf_Wd → Prop} (h : cf_wp T_P_askSet (0, [some (.inr 15), some (.inl a1), some (.inl a2)], [], w) (cf_qi P)) : ∃ x w1, F_P_askSet [.inr 15, .inl a1, .inl a2] w = some (some (.inl x), w1) ∧ P x w1 := cf_ei rfl (Nat.le_of_ble_eq_true rfl) h
noncomputable def T_P_piece (pc : Nat) : cf_Rw := bif Nat.ble pc 43 then
 (bif Nat.ble pc 18 then
  (bif Nat.ble pc 9 then
   (bif Nat.ble pc 5 then
    (bif Nat.ble pc 1 then
     (bif Nat.ble pc 0 then
      (bif Nat.beq pc 0 then cf_iload 0 1 else cf_stuck)
      else
      (bif Nat.beq pc 1 then cf_call 1 F_P_bits 4 else cf_stuck))
     else
     (bif Nat.ble pc 4 then
      (bif Nat.beq pc 4 then cf_istore 3 5 else cf_stuck)
      else
      (bif Nat.beq pc 5 then cf_iload 1 6 else cf_stuck)))
    else
    (bif Nat.ble pc 7 then
     (bif Nat.ble pc 6 then
      (bif Nat.beq pc 6 then cf_iload 3 7 else cf_stuck)
      else
      (bif Nat.beq pc 7 then cf_bin (fun x y => x * y) 8 else cf_stuck))
     else
     (bif Nat.ble pc 8 then
      (bif Nat.beq pc 8 then cf_iload 2 9 else cf_stuck)
      else
      (bif Nat.beq pc 9 then cf_div 10 else cf_stuck))))
   else
   (bif Nat.ble pc 14 then
    (bif Nat.ble pc 12 then
     (bif Nat.ble pc 10 then
      (bif Nat.beq pc 10 then cf_istore 4 12 else cf_stuck)
      else
      (bif Nat.beq pc 12 then cf_iload 1 13 else cf_stuck))
     else
     (bif Nat.ble pc 13 then
      (bif Nat.beq pc 13 then cf_const 1 14 else cf_stuck)
      else
      (bif Nat.beq pc 14 then cf_bin (fun x y => x + y) 15 else cf_stuck)))
    else
    (bif Nat.ble pc 16 then
     (bif Nat.ble pc 15 then
      (bif Nat.beq pc 15 then cf_iload 3 16 else cf_stuck)
      else
      (bif Nat.beq pc 16 then cf_bin (fun x y => x * y) 17 else cf_stuck))
     else
     (bif Nat.ble pc 17 then
      (bif Nat.beq pc 17 then cf_iload 2 18 else cf_stuck)
      else
      (bif Nat.beq pc 18 then cf_div 19 else cf_stuck)))))
  else
  (bif Nat.ble pc 30 then
   (bif Nat.ble pc 24 then
    (bif Nat.ble pc 21 then
     (bif Nat.ble pc 19 then
      (bif Nat.beq pc 19 then cf_istore 5 21 else cf_stuck)
      else
      (bif Nat.beq pc 21 then cf_const 0 22 else cf_stuck))
     else
     (bif Nat.ble pc 22 then
      (bif Nat.beq pc 22 then cf_istore 6 24 else cf_stuck)
      else
      (bif Nat.beq pc 24 then cf_const 0 25 else cf_stuck)))
    else
    (bif Nat.ble pc 27 then
     (bif Nat.ble pc 25 then
      (bif Nat.beq pc 25 then cf_istore 7 27 else cf_stuck)
      else
      (bif Nat.beq pc 27 then cf_const 0 28 else cf_stuck))
     else
     (bif Nat.ble pc 28 then
      (bif Nat.beq pc 28 then cf_istore 8 30 else cf_stuck)
      else
      (bif Nat.beq pc 30 then cf_iload 8 32 else cf_stuck))))
   else
   (bif Nat.ble pc 38 then
    (bif Nat.ble pc 34 then
     (bif Nat.ble pc 32 then
      (bif Nat.beq pc 32 then cf_const 8 34 else cf_stuck)
      else
      (bif Nat.beq pc 34 then cf_icge 109 37 else cf_stuck))
     else
     (bif Nat.ble pc 37 then
      (bif Nat.beq pc 37 then cf_iload 0 38 else cf_stuck)
      else
      (bif Nat.beq pc 38 then cf_iload 8 40 else cf_stuck)))
    else
    (bif Nat.ble pc 41 then
     (bif Nat.ble pc 40 then
      (bif Nat.beq pc 40 then cf_bin (fun x y => x >>> (y &&& 31)) 41 else cf_stuck)
      else
      (bif Nat.beq pc 41 then cf_const 1 42 else cf_stuck))
     else
     (bif Nat.ble pc 42 then
      (bif Nat.beq pc 42 then cf_bin (fun x y => x &&& y) 43 else cf_stuck)
      else
      (bif Nat.beq pc 43 then cf_const 1 44 else cf_stuck))))))
 else
 (bif Nat.ble pc 76 then
  (bif Nat.ble pc 59 then
   (bif Nat.ble pc 51 then
    (bif Nat.ble pc 47 then
     (bif Nat.ble pc 44 then
      (bif Nat.beq pc 44 then cf_icne 51 47 else cf_stuck)
      else
      (bif Nat.beq pc 47 then cf_const 1 48 else cf_stuck))
     else
     (bif Nat.ble pc 48 then
      (bif Nat.beq pc 48 then cf_goto 52 else cf_stuck)
      else
      (bif Nat.beq pc 51 then cf_const 0 52 else cf_stuck)))
    else
    (bif Nat.ble pc 54 then
     (bif Nat.ble pc 52 then
      (bif Nat.beq pc 52 then cf_istore 9 54 else cf_stuck)
      else
      (bif Nat.beq pc 54 then cf_iload 9 56 else cf_stuck))
     else
     (bif Nat.ble pc 56 then
      (bif Nat.beq pc 56 then cf_ifeq 83 59 else cf_stuck)
      else
      (bif Nat.beq pc 59 then cf_iload 7 61 else cf_stuck))))
   else
   (bif Nat.ble pc 68 then
    (bif Nat.ble pc 63 then
     (bif Nat.ble pc 61 then
      (bif Nat.beq pc 61 then cf_iload 4 63 else cf_stuck)
      else
      (bif Nat.beq pc 63 then cf_iclt 83 66 else cf_stuck))
     else
     (bif Nat.ble pc 66 then
      (bif Nat.beq pc 66 then cf_iload 7 68 else cf_stuck)
      else
      (bif Nat.beq pc 68 then cf_iload 5 70 else cf_stuck)))
    else
    (bif Nat.ble pc 73 then
     (bif Nat.ble pc 70 then
      (bif Nat.beq pc 70 then cf_icge 83 73 else cf_stuck)
      else
      (bif Nat.beq pc 73 then cf_iload 6 75 else cf_stuck))
     else
     (bif Nat.ble pc 75 then
      (bif Nat.beq pc 75 then cf_const 1 76 else cf_stuck)
      else
      (bif Nat.beq pc 76 then cf_iload 8 78 else cf_stuck)))))
  else
  (bif Nat.ble pc 92 then
   (bif Nat.ble pc 83 then
    (bif Nat.ble pc 79 then
     (bif Nat.ble pc 78 then
      (bif Nat.beq pc 78 then cf_bin (fun x y => x <<< (y &&& 31)) 79 else cf_stuck)
      else
      (bif Nat.beq pc 79 then cf_bin (fun x y => x ||| y) 80 else cf_stuck))
     else
     (bif Nat.ble pc 80 then
      (bif Nat.beq pc 80 then cf_goto 85 else cf_stuck)
      else
      (bif Nat.beq pc 83 then cf_iload 6 85 else cf_stuck)))
    else
    (bif Nat.ble pc 87 then
     (bif Nat.ble pc 85 then
      (bif Nat.beq pc 85 then cf_istore 6 87 else cf_stuck)
      else
      (bif Nat.beq pc 87 then cf_iload 9 89 else cf_stuck))
     else
     (bif Nat.ble pc 89 then
      (bif Nat.beq pc 89 then cf_ifeq 99 92 else cf_stuck)
      else
      (bif Nat.beq pc 92 then cf_iload 7 94 else cf_stuck))))
   else
   (bif Nat.ble pc 99 then
    (bif Nat.ble pc 95 then
     (bif Nat.ble pc 94 then
      (bif Nat.beq pc 94 then cf_const 1 95 else cf_stuck)
      else
      (bif Nat.beq pc 95 then cf_bin (fun x y => x + y) 96 else cf_stuck))
     else
     (bif Nat.ble pc 96 then
      (bif Nat.beq pc 96 then cf_goto 101 else cf_stuck)
      else
      (bif Nat.beq pc 99 then cf_iload 7 101 else cf_stuck)))
    else
    (bif Nat.ble pc 103 then
     (bif Nat.ble pc 101 then
      (bif Nat.beq pc 101 then cf_istore 7 103 else cf_stuck)
      else
      (bif Nat.beq pc 103 then cf_iinc 8 1 106 else cf_stuck))
     else
     (bif Nat.ble pc 106 then
      (bif Nat.beq pc 106 then cf_goto 30 else cf_stuck)
      else
      (bif Nat.ble pc 109 then
       (bif Nat.beq pc 109 then cf_iload 6 111 else cf_stuck)
       else
       (bif Nat.beq pc 111 then cf_iret else cf_stuck)))))))
noncomputable def F_P_piece : List cf_AV → cf_Wd → Option cf_Rs := cf_F T_P_piece 10 (some .int) (cf_shS 3)
theorem r_P_piece_0 {l1 l2 l3 l4 l5 l6 l7 l8 l9 : Option cf_AV} {x : Int32} {st : List cf_AV} {w : cf_Wd} {Q : cf_Rs → Prop} : cf_wp T_P_piece (0, [some (.inl x), l1, l2, l3, l4, l5, l6, l7, l8, l9], st, w) Q ↔ cf_wp T_P_piece (1, [some (.inl x), l1, l2, l3, l4, l5, l6, l7, l8, l9], .inl x :: st, w) Q := cf_w1 rfl
theorem r_P_piece_1 {l0 l1 l2 l3 l4 l5 l6 l7 l8 l9 : Option cf_AV} {a0 : Int32} {w : cf_Wd} {Q : cf_Rs → Prop} : cf_wp T_P_piece (1, [l0, l1, l2, l3, l4, l5, l6, l7, l8, l9], [.inl a0], w) Q ↔ ∃ x w1, F_P_bits [.inl a0] w = some (some (.inl x), w1) ∧ cf_wp T_P_piece (4, [l0, l1, l2, l3, l4, l5, l6, l7, l8, l9], [.inl x], w1) Q := cf_wci (n := 1) (F := F_P_bits) (nx := 4) rfl rfl cf_F_i
theorem c_P_piece_1 {l0 l1 l2 l3 l4 l5 l6 l7 l8 l9 : Option cf_AV} {a0 : Int32} {x1 : Int32} {w1 : cf_Wd} {w : cf_Wd} {Q : cf_Rs → Prop} (hs : F_P_bits [.inl a0] w = some (some (.inl x1), w1)) : cf_wp T_P_piece (1, [l0, l1, l2, l3, l4, l5, l6, l7, l8, l9], [.inl a0], w) Q ↔ cf_wp T_P_piece (4, [l0, l1, l2, l3, l4, l5, l6, l7, l8, l9], [.inl x1], w1) Q := r_P_piece_1.trans (cf_xi hs)
theorem r_P_piece_4 {l0 l1 l2 l3 l4 l5 l6 l7 l8 l9 : Option cf_AV} {x : Int32} {st : List cf_AV} {w : cf_Wd} {Q : cf_Rs → Prop} : cf_wp T_P_piece (4, [l0, l1, l2, l3, l4, l5, l6, l7, l8, l9], .inl x :: st, w) Q ↔ cf_wp T_P_piece (5, [l0, l1, l2, some (.inl x), l4, l5, l6, l7, l8, l9], st, w) Q := cf_w1 rfl
theorem r_P_piece_5 {l0 l2 l3 l4 l5 l6 l7 l8 l9 : Option cf_AV} {x : Int32} {st : List cf_AV} {w : cf_Wd} {Q : cf_Rs → Prop} : cf_wp T_P_piece (5, [l0, some (.inl x), l2, l3, l4, l5, l6, l7, l8, l9], st, w) Q ↔ cf_wp T_P_piece (6, [l0, some (.inl x), l2, l3, l4, l5, l6, l7, l8, l9], .inl x :: st, w) Q := cf_w1 rfl
theorem r_P_piece_6 {l0 l1 l2 l4 l5 l6 l7 l8 l9 : Option cf_AV} {x : Int32} {st : List cf_AV} {w : cf_Wd} {Q : cf_Rs → Prop} : cf_wp T_P_piece (6, [l0, l1, l2, some (.inl x), l4, l5, l6, l7, l8, l9], st, w) Q ↔ cf_wp T_P_piece (7, [l0, l1, l2, some (.inl x), l4, l5, l6, l7, l8, l9], .inl x :: st, w) Q := cf_w1 rfl
theorem r_P_piece_7 {l0 l1 l2 l3 l4 l5 l6 l7 l8 l9 : Option cf_AV} {x y : Int32} {st : List cf_AV} {w : cf_Wd} {Q : cf_Rs → Prop} : cf_wp T_P_piece (7, [l0, l1, l2, l3, l4, l5, l6, l7, l8, l9], .inl y :: .inl x :: st, w) Q ↔ cf_wp T_P_piece (8, [l0, l1, l2, l3, l4, l5, l6, l7, l8, l9], .inl (x * y) :: st, w) Q := cf_w1 rfl
theorem r_P_piece_8 {l0 l1 l3 l4 l5 l6 l7 l8 l9 : Option cf_AV} {x : Int32} {st : List cf_AV} {w : cf_Wd} {Q : cf_Rs → Prop} : cf_wp T_P_piece (8, [l0, l1, some (.inl x), l3, l4, l5, l6, l7, l8, l9], st, w) Q ↔ cf_wp T_P_piece (9, [l0, l1, some (.inl x), l3, l4, l5, l6, l7, l8, l9], .inl x :: st, w) Q := cf_w1 rfl
theorem r_P_piece_9 {l0 l1 l2 l3 l4 l5 l6 l7 l8 l9 : Option cf_AV} {x y : Int32} {st : List cf_AV} {w : cf_Wd} {Q : cf_Rs → Prop} : cf_wp T_P_piece (9, [l0, l1, l2, l3, l4, l5, l6, l7, l8, l9], .inl y :: .inl x :: st, w) Q ↔ ((!(y == 0)) = true ∧ cf_wp T_P_piece (10, [l0, l1, l2, l3, l4, l5, l6, l7, l8, l9], .inl (x / y) :: st, w) Q) := cf_wg rfl
theorem r_P_piece_10 {l0 l1 l2 l3 l4 l5 l6 l7 l8 l9 : Option cf_AV} {x : Int32} {st : List cf_AV} {w : cf_Wd} {Q : cf_Rs → Prop} : cf_wp T_P_piece (10, [l0, l1, l2, l3, l4, l5, l6, l7, l8, l9], .inl x :: st, w) Q ↔ cf_wp T_P_piece (12, [l0, l1, l2, l3, some (.inl x), l5, l6, l7, l8, l9], st, w) Q := cf_w1 rfl
theorem r_P_piece_12 {l0 l2 l3 l4 l5 l6 l7 l8 l9 : Option cf_AV} {x : Int32} {st : List cf_AV} {w : cf_Wd} {Q : cf_Rs → Prop} : cf_wp T_P_piece (12, [l0, some (.inl x), l2, l3, l4, l5, l6, l7, l8, l9], st, w) Q ↔ cf_wp T_P_piece (13, [l0, some (.inl x), l2, l3, l4, l5, l6, l7, l8, l9], .inl x :: st, w) Q := cf_w1 rfl
theorem r_P_piece_13 {l0 l1 l2 l3 l4 l5 l6 l7 l8 l9 : Option cf_AV} {st : List cf_AV} {w : cf_Wd} {Q : cf_Rs → Prop} : cf_wp T_P_piece (13, [l0, l1, l2, l3, l4, l5, l6, l7, l8, l9], st, w) Q ↔ cf_wp T_P_piece (14, [l0, l1, l2, l3, l4, l5, l6, l7, l8, l9], .inl 1 :: st, w) Q := cf_w1 rfl
theorem r_P_piece_14 {l0 l1 l2 l3 l4 l5 l6 l7 l8 l9 : Option cf_AV} {x y : Int32} {st : List cf_AV} {w : cf_Wd} {Q : cf_Rs → Prop} : cf_wp T_P_piece (14, [l0, l1, l2, l3, l4, l5, l6, l7, l8, l9], .inl y :: .inl x :: st, w) Q ↔ cf_wp T_P_piece (15, [l0, l1, l2, l3, l4, l5, l6, l7, l8, l9], .inl (x + y) :: st, w) Q := cf_w1 rfl
theorem r_P_piece_15 {l0 l1 l2 l4 l5 l6 l7 l8 l9 : Option cf_AV} {x : Int32} {st : List cf_AV} {w : cf_Wd} {Q : cf_Rs → Prop} : cf_wp T_P_piece (15, [l0, l1, l2, some (.inl x), l4, l5, l6, l7, l8, l9], st, w) Q ↔ cf_wp T_P_piece (16, [l0, l1, l2, some (.inl x), l4, l5, l6, l7, l8, l9], .inl x :: st, w) Q := cf_w1 rfl
theorem r_P_piece_16 {l0 l1 l2 l3 l4 l5 l6 l7 l8 l9 : Option cf_AV} {x y : Int32} {st : List cf_AV} {w : cf_Wd} {Q : cf_Rs → Prop} : cf_wp T_P_piece (16, [l0, l1, l2, l3, l4, l5, l6, l7, l8, l9], .inl y :: .inl x :: st, w) Q ↔ cf_wp T_P_piece (17, [l0, l1, l2, l3, l4, l5, l6, l7, l8, l9], .inl (x * y) :: st, w) Q := cf_w1 rfl
theorem r_P_piece_17 {l0 l1 l3 l4 l5 l6 l7 l8 l9 : Option cf_AV} {x : Int32} {st : List cf_AV} {w : cf_Wd} {Q : cf_Rs → Prop} : cf_wp T_P_piece (17, [l0, l1, some (.inl x), l3, l4, l5, l6, l7, l8, l9], st, w) Q ↔ cf_wp T_P_piece (18, [l0, l1, some (.inl x), l3, l4, l5, l6, l7, l8, l9], .inl x :: st, w) Q := cf_w1 rfl
theorem r_P_piece_18 {l0 l1 l2 l3 l4 l5 l6 l7 l8 l9 : Option cf_AV} {x y : Int32} {st : List cf_AV} {w : cf_Wd} {Q : cf_Rs → Prop} : cf_wp T_P_piece (18, [l0, l1, l2, l3, l4, l5, l6, l7, l8, l9], .inl y :: .inl x :: st, w) Q ↔ ((!(y == 0)) = true ∧ cf_wp T_P_piece (19, [l0, l1, l2, l3, l4, l5, l6, l7, l8, l9], .inl (x / y) :: st, w) Q) := cf_wg rfl
theorem r_P_piece_19 {l0 l1 l2 l3 l4 l5 l6 l7 l8 l9 : Option cf_AV} {x : Int32} {st : List cf_AV} {w : cf_Wd} {Q : cf_Rs → Prop} : cf_wp T_P_piece (19, [l0, l1, l2, l3, l4, l5, l6, l7, l8, l9], .inl x :: st, w) Q ↔ cf_wp T_P_piece (21, [l0, l1, l2, l3, l4, some (.inl x), l6, l7, l8, l9], st, w) Q := cf_w1 rfl
theorem r_P_piece_21 {l0 l1 l2 l3 l4 l5 l6 l7 l8 l9 : Option cf_AV} {st : List cf_AV} {w : cf_Wd} {Q : cf_Rs → Prop} : cf_wp T_P_piece (21, [l0, l1, l2, l3, l4, l5, l6, l7, l8, l9], st, w) Q ↔ cf_wp T_P_piece (22, [l0, l1, l2, l3, l4, l5, l6, l7, l8, l9], .inl 0 :: st, w) Q := cf_w1 rfl
theorem r_P_piece_22 {l0 l1 l2 l3 l4 l5 l6 l7 l8 l9 : Option cf_AV} {x : Int32} {st : List cf_AV} {w : cf_Wd} {Q : cf_Rs → Prop} : cf_wp T_P_piece (22, [l0, l1, l2, l3, l4, l5, l6, l7, l8, l9], .inl x :: st, w) Q ↔ cf_wp T_P_piece (24, [l0, l1, l2, l3, l4, l5, some (.inl x), l7, l8, l9], st, w) Q := cf_w1 rfl
theorem r_P_piece_24 {l0 l1 l2 l3 l4 l5 l6 l7 l8 l9 : Option cf_AV} {st : List cf_AV} {w : cf_Wd} {Q : cf_Rs → Prop} : cf_wp T_P_piece (24, [l0, l1, l2, l3, l4, l5, l6, l7, l8, l9], st, w) Q ↔ cf_wp T_P_piece (25, [l0, l1, l2, l3, l4, l5, l6, l7, l8, l9], .inl 0 :: st, w) Q := cf_w1 rfl
theorem r_P_piece_25 {l0 l1 l2 l3 l4 l5 l6 l7 l8 l9 : Option cf_AV} {x : Int32} {st : List cf_AV} {w : cf_Wd} {Q : cf_Rs → Prop} : cf_wp T_P_piece (25, [l0, l1, l2, l3, l4, l5, l6, l7, l8, l9], .inl x :: st, w) Q ↔ cf_wp T_P_piece (27, [l0, l1, l2, l3, l4, l5, l6, some (.inl x), l8, l9], st, w) Q := cf_w1 rfl
theorem r_P_piece_27 {l0 l1 l2 l3 l4 l5 l6 l7 l8 l9 : Option cf_AV} {st : List cf_AV} {w : cf_Wd} {Q : cf_Rs → Prop} : cf_wp T_P_piece (27, [l0, l1, l2, l3, l4, l5, l6, l7, l8, l9], st, w) Q ↔ cf_wp T_P_piece (28, [l0, l1, l2, l3, l4, l5, l6, l7, l8, l9], .inl 0 :: st, w) Q := cf_w1 rfl
theorem r_P_piece_28 {l0 l1 l2 l3 l4 l5 l6 l7 l8 l9 : Option cf_AV} {x : Int32} {st : List cf_AV} {w : cf_Wd} {Q : cf_Rs → Prop} : cf_wp T_P_piece (28, [l0, l1, l2, l3, l4, l5, l6, l7, l8, l9], .inl x :: st, w) Q ↔ cf_wp T_P_piece (30, [l0, l1, l2, l3, l4, l5, l6, l7, some (.inl x), l9], st, w) Q := cf_w1 rfl
theorem r_P_piece_30 {l0 l1 l2 l3 l4 l5 l6 l7 l9 : Option cf_AV} {x : Int32} {st : List cf_AV} {w : cf_Wd} {Q : cf_Rs → Prop} : cf_wp T_P_piece (30, [l0, l1, l2, l3, l4, l5, l6, l7, some (.inl x), l9], st, w) Q ↔ cf_wp T_P_piece (32, [l0, l1, l2, l3, l4, l5, l6, l7, some (.inl x), l9], .inl x :: st, w) Q := cf_w1 rfl
theorem r_P_piece_32 {l0 l1 l2 l3 l4 l5 l6 l7 l8 l9 : Option cf_AV} {st : List cf_AV} {w : cf_Wd} {Q : cf_Rs → Prop} : cf_wp T_P_piece (32, [l0, l1, l2, l3, l4, l5, l6, l7, l8, l9], st, w) Q ↔ cf_wp T_P_piece (34, [l0, l1, l2, l3, l4, l5, l6, l7, l8, l9], .inl 8 :: st, w) Q := cf_w1 rfl
theorem r_P_piece_34 {l0 l1 l2 l3 l4 l5 l6 l7 l8 l9 : Option cf_AV} {x y : Int32} {st : List cf_AV} {w : cf_Wd} {Q : cf_Rs → Prop} : cf_wp T_P_piece (34, [l0, l1, l2, l3, l4, l5, l6, l7, l8, l9], .inl y :: .inl x :: st, w) Q ↔ (if y ≤ x then cf_wp T_P_piece (109, [l0, l1, l2, l3, l4, l5, l6, l7, l8, l9], st, w) Q else cf_wp T_P_piece (37, [l0, l1, l2, l3, l4, l5, l6, l7, l8, l9], st, w) Q) := cf_wi rfl
theorem r_P_piece_37 {l1 l2 l3 l4 l5 l6 l7 l8 l9 : Option cf_AV} {x : Int32} {st : List cf_AV} {w : cf_Wd} {Q : cf_Rs → Prop} : cf_wp T_P_piece (37, [some (.inl x), l1, l2, l3, l4, l5, l6, l7, l8, l9], st, w) Q ↔ cf_wp T_P_piece (38, [some (.inl x), l1, l2, l3, l4, l5, l6, l7, l8, l9], .inl x :: st, w) Q := cf_w1 rfl
theorem r_P_piece_38 {l0 l1 l2 l3 l4 l5 l6 l7 l9 : Option cf_AV} {x : Int32} {st : List cf_AV} {w : cf_Wd} {Q : cf_Rs → Prop} : cf_wp T_P_piece (38, [l0, l1, l2, l3, l4, l5, l6, l7, some (.inl x), l9], st, w) Q ↔ cf_wp T_P_piece (40, [l0, l1, l2, l3, l4, l5, l6, l7, some (.inl x), l9], .inl x :: st, w) Q := cf_w1 rfl
theorem r_P_piece_40 {l0 l1 l2 l3 l4 l5 l6 l7 l8 l9 : Option cf_AV} {x y : Int32} {st : List cf_AV} {w : cf_Wd} {Q : cf_Rs → Prop} : cf_wp T_P_piece (40, [l0, l1, l2, l3, l4, l5, l6, l7, l8, l9], .inl y :: .inl x :: st, w) Q ↔ cf_wp T_P_piece (41, [l0, l1, l2, l3, l4, l5, l6, l7, l8, l9], .inl (x >>> (y &&& 31)) :: st, w) Q := cf_w1 rfl
theorem r_P_piece_41 {l0 l1 l2 l3 l4 l5 l6 l7 l8 l9 : Option cf_AV} {st : List cf_AV} {w : cf_Wd} {Q : cf_Rs → Prop} : cf_wp T_P_piece (41, [l0, l1, l2, l3, l4, l5, l6, l7, l8, l9], st, w) Q ↔ cf_wp T_P_piece (42, [l0, l1, l2, l3, l4, l5, l6, l7, l8, l9], .inl 1 :: st, w) Q := cf_w1 rfl
theorem r_P_piece_42 {l0 l1 l2 l3 l4 l5 l6 l7 l8 l9 : Option cf_AV} {x y : Int32} {st : List cf_AV} {w : cf_Wd} {Q : cf_Rs → Prop} : cf_wp T_P_piece (42, [l0, l1, l2, l3, l4, l5, l6, l7, l8, l9], .inl y :: .inl x :: st, w) Q ↔ cf_wp T_P_piece (43, [l0, l1, l2, l3, l4, l5, l6, l7, l8, l9], .inl (x &&& y) :: st, w) Q := cf_w1 rfl
theorem r_P_piece_43 {l0 l1 l2 l3 l4 l5 l6 l7 l8 l9 : Option cf_AV} {st : List cf_AV} {w : cf_Wd} {Q : cf_Rs → Prop} : cf_wp T_P_piece (43, [l0, l1, l2, l3, l4, l5, l6, l7, l8, l9], st, w) Q ↔ cf_wp T_P_piece (44, [l0, l1, l2, l3, l4, l5, l6, l7, l8, l9], .inl 1 :: st, w) Q := cf_w1 rfl
theorem r_P_piece_44 {l0 l1 l2 l3 l4 l5 l6 l7 l8 l9 : Option cf_AV} {x y : Int32} {st : List cf_AV} {w : cf_Wd} {Q : cf_Rs → Prop} : cf_wp T_P_piece (44, [l0, l1, l2, l3, l4, l5, l6, l7, l8, l9], .inl y :: .inl x :: st, w) Q ↔ (if ¬ x = y then cf_wp T_P_piece (51, [l0, l1, l2, l3, l4, l5, l6, l7, l8, l9], st, w) Q else cf_wp T_P_piece (47, [l0, l1, l2, l3, l4, l5, l6, l7, l8, l9], st, w) Q) := cf_wi rfl
theorem r_P_piece_47 {l0 l1 l2 l3 l4 l5 l6 l7 l8 l9 : Option cf_AV} {st : List cf_AV} {w : cf_Wd} {Q : cf_Rs → Prop} : cf_wp T_P_piece (47, [l0, l1, l2, l3, l4, l5, l6, l7, l8, l9], st, w) Q ↔ cf_wp T_P_piece (48, [l0, l1, l2, l3, l4, l5, l6, l7, l8, l9], .inl 1 :: st, w) Q := cf_w1 rfl
theorem r_P_piece_48 {l0 l1 l2 l3 l4 l5 l6 l7 l8 l9 : Option cf_AV} {st : List cf_AV} {w : cf_Wd} {Q : cf_Rs → Prop} : cf_wp T_P_piece (48, [l0, l1, l2, l3, l4, l5, l6, l7, l8, l9], st, w) Q ↔ cf_wp T_P_piece (52, [l0, l1, l2, l3, l4, l5, l6, l7, l8, l9], st, w) Q := cf_w1 rfl
theorem r_P_piece_51 {l0 l1 l2 l3 l4 l5 l6 l7 l8 l9 : Option cf_AV} {st : List cf_AV} {w : cf_Wd} {Q : cf_Rs → Prop} : cf_wp T_P_piece (51, [l0, l1, l2, l3, l4, l5, l6, l7, l8, l9], st, w) Q ↔ cf_wp T_P_piece (52, [l0, l1, l2, l3, l4, l5, l6, l7, l8, l9], .inl 0 :: st, w) Q := cf_w1 rfl
theorem r_P_piece_52 {l0 l1 l2 l3 l4 l5 l6 l7 l8 l9 : Option cf_AV} {x : Int32} {st : List cf_AV} {w : cf_Wd} {Q : cf_Rs → Prop} : cf_wp T_P_piece (52, [l0, l1, l2, l3, l4, l5, l6, l7, l8, l9], .inl x :: st, w) Q ↔ cf_wp T_P_piece (54, [l0, l1, l2, l3, l4, l5, l6, l7, l8, some (.inl x)], st, w) Q := cf_w1 rfl
theorem r_P_piece_54 {l0 l1 l2 l3 l4 l5 l6 l7 l8 : Option cf_AV} {x : Int32} {st : List cf_AV} {w : cf_Wd} {Q : cf_Rs → Prop} : cf_wp T_P_piece (54, [l0, l1, l2, l3, l4, l5, l6, l7, l8, some (.inl x)], st, w) Q ↔ cf_wp T_P_piece (56, [l0, l1, l2, l3, l4, l5, l6, l7, l8, some (.inl x)], .inl x :: st, w) Q := cf_w1 rfl
theorem r_P_piece_56 {l0 l1 l2 l3 l4 l5 l6 l7 l8 l9 : Option cf_AV} {x : Int32} {st : List cf_AV} {w : cf_Wd} {Q : cf_Rs → Prop} : cf_wp T_P_piece (56, [l0, l1, l2, l3, l4, l5, l6, l7, l8, l9], .inl x :: st, w) Q ↔ (if x = 0 then cf_wp T_P_piece (83, [l0, l1, l2, l3, l4, l5, l6, l7, l8, l9], st, w) Q else cf_wp T_P_piece (59, [l0, l1, l2, l3, l4, l5, l6, l7, l8, l9], st, w) Q) := cf_wi rfl
theorem r_P_piece_59 {l0 l1 l2 l3 l4 l5 l6 l8 l9 : Option cf_AV} {x : Int32} {st : List cf_AV} {w : cf_Wd} {Q : cf_Rs → Prop} : cf_wp T_P_piece (59, [l0, l1, l2, l3, l4, l5, l6, some (.inl x), l8, l9], st, w) Q ↔ cf_wp T_P_piece (61, [l0, l1, l2, l3, l4, l5, l6, some (.inl x), l8, l9], .inl x :: st, w) Q := cf_w1 rfl
theorem r_P_piece_61 {l0 l1 l2 l3 l5 l6 l7 l8 l9 : Option cf_AV} {x : Int32} {st : List cf_AV} {w : cf_Wd} {Q : cf_Rs → Prop} : cf_wp T_P_piece (61, [l0, l1, l2, l3, some (.inl x), l5, l6, l7, l8, l9], st, w) Q ↔ cf_wp T_P_piece (63, [l0, l1, l2, l3, some (.inl x), l5, l6, l7, l8, l9], .inl x :: st, w) Q := cf_w1 rfl
theorem r_P_piece_63 {l0 l1 l2 l3 l4 l5 l6 l7 l8 l9 : Option cf_AV} {x y : Int32} {st : List cf_AV} {w : cf_Wd} {Q : cf_Rs → Prop} : cf_wp T_P_piece (63, [l0, l1, l2, l3, l4, l5, l6, l7, l8, l9], .inl y :: .inl x :: st, w) Q ↔ (if x < y then cf_wp T_P_piece (83, [l0, l1, l2, l3, l4, l5, l6, l7, l8, l9], st, w) Q else cf_wp T_P_piece (66, [l0, l1, l2, l3, l4, l5, l6, l7, l8, l9], st, w) Q) := cf_wi rfl
theorem r_P_piece_66 {l0 l1 l2 l3 l4 l5 l6 l8 l9 : Option cf_AV} {x : Int32} {st : List cf_AV} {w : cf_Wd} {Q : cf_Rs → Prop} : cf_wp T_P_piece (66, [l0, l1, l2, l3, l4, l5, l6, some (.inl x), l8, l9], st, w) Q ↔ cf_wp T_P_piece (68, [l0, l1, l2, l3, l4, l5, l6, some (.inl x), l8, l9], .inl x :: st, w) Q := cf_w1 rfl
theorem r_P_piece_68 {l0 l1 l2 l3 l4 l6 l7 l8 l9 : Option cf_AV} {x : Int32} {st : List cf_AV} {w : cf_Wd} {Q : cf_Rs → Prop} : cf_wp T_P_piece (68, [l0, l1, l2, l3, l4, some (.inl x), l6, l7, l8, l9], st, w) Q ↔ cf_wp T_P_piece (70, [l0, l1, l2, l3, l4, some (.inl x), l6, l7, l8, l9], .inl x :: st, w) Q := cf_w1 rfl
theorem r_P_piece_70 {l0 l1 l2 l3 l4 l5 l6 l7 l8 l9 : Option cf_AV} {x y : Int32} {st : List cf_AV} {w : cf_Wd} {Q : cf_Rs → Prop} : cf_wp T_P_piece (70, [l0, l1, l2, l3, l4, l5, l6, l7, l8, l9], .inl y :: .inl x :: st, w) Q ↔ (if y ≤ x then cf_wp T_P_piece (83, [l0, l1, l2, l3, l4, l5, l6, l7, l8, l9], st, w) Q else cf_wp T_P_piece (73, [l0, l1, l2, l3, l4, l5, l6, l7, l8, l9], st, w) Q) := cf_wi rfl
theorem r_P_piece_73 {l0 l1 l2 l3 l4 l5 l7 l8 l9 : Option cf_AV} {x : Int32} {st : List cf_AV} {w : cf_Wd} {Q : cf_Rs → Prop} : cf_wp T_P_piece (73, [l0, l1, l2, l3, l4, l5, some (.inl x), l7, l8, l9], st, w) Q ↔ cf_wp T_P_piece (75, [l0, l1, l2, l3, l4, l5, some (.inl x), l7, l8, l9], .inl x :: st, w) Q := cf_w1 rfl
theorem r_P_piece_75 {l0 l1 l2 l3 l4 l5 l6 l7 l8 l9 : Option cf_AV} {st : List cf_AV} {w : cf_Wd} {Q : cf_Rs → Prop} : cf_wp T_P_piece (75, [l0, l1, l2, l3, l4, l5, l6, l7, l8, l9], st, w) Q ↔ cf_wp T_P_piece (76, [l0, l1, l2, l3, l4, l5, l6, l7, l8, l9], .inl 1 :: st, w) Q := cf_w1 rfl
theorem r_P_piece_76 {l0 l1 l2 l3 l4 l5 l6 l7 l9 : Option cf_AV} {x : Int32} {st : List cf_AV} {w : cf_Wd} {Q : cf_Rs → Prop} : cf_wp T_P_piece (76, [l0, l1, l2, l3, l4, l5, l6, l7, some (.inl x), l9], st, w) Q ↔ cf_wp T_P_piece (78, [l0, l1, l2, l3, l4, l5, l6, l7, some (.inl x), l9], .inl x :: st, w) Q := cf_w1 rfl
theorem r_P_piece_78 {l0 l1 l2 l3 l4 l5 l6 l7 l8 l9 : Option cf_AV} {x y : Int32} {st : List cf_AV} {w : cf_Wd} {Q : cf_Rs → Prop} : cf_wp T_P_piece (78, [l0, l1, l2, l3, l4, l5, l6, l7, l8, l9], .inl y :: .inl x :: st, w) Q ↔ cf_wp T_P_piece (79, [l0, l1, l2, l3, l4, l5, l6, l7, l8, l9], .inl (x <<< (y &&& 31)) :: st, w) Q := cf_w1 rfl
theorem r_P_piece_79 {l0 l1 l2 l3 l4 l5 l6 l7 l8 l9 : Option cf_AV} {x y : Int32} {st : List cf_AV} {w : cf_Wd} {Q : cf_Rs → Prop} : cf_wp T_P_piece (79, [l0, l1, l2, l3, l4, l5, l6, l7, l8, l9], .inl y :: .inl x :: st, w) Q ↔ cf_wp T_P_piece (80, [l0, l1, l2, l3, l4, l5, l6, l7, l8, l9], .inl (x ||| y) :: st, w) Q := cf_w1 rfl
theorem r_P_piece_80 {l0 l1 l2 l3 l4 l5 l6 l7 l8 l9 : Option cf_AV} {st : List cf_AV} {w : cf_Wd} {Q : cf_Rs → Prop} : cf_wp T_P_piece (80, [l0, l1, l2, l3, l4, l5, l6, l7, l8, l9], st, w) Q ↔ cf_wp T_P_piece (85, [l0, l1, l2, l3, l4, l5, l6, l7, l8, l9], st, w) Q := cf_w1 rfl
theorem r_P_piece_83 {l0 l1 l2 l3 l4 l5 l7 l8 l9 : Option cf_AV} {x : Int32} {st : List cf_AV} {w : cf_Wd} {Q : cf_Rs → Prop} : cf_wp T_P_piece (83, [l0, l1, l2, l3, l4, l5, some (.inl x), l7, l8, l9], st, w) Q ↔ cf_wp T_P_piece (85, [l0, l1, l2, l3, l4, l5, some (.inl x), l7, l8, l9], .inl x :: st, w) Q := cf_w1 rfl
theorem r_P_piece_85 {l0 l1 l2 l3 l4 l5 l6 l7 l8 l9 : Option cf_AV} {x : Int32} {st : List cf_AV} {w : cf_Wd} {Q : cf_Rs → Prop} : cf_wp T_P_piece (85, [l0, l1, l2, l3, l4, l5, l6, l7, l8, l9], .inl x :: st, w) Q ↔ cf_wp T_P_piece (87, [l0, l1, l2, l3, l4, l5, some (.inl x), l7, l8, l9], st, w) Q := cf_w1 rfl
theorem r_P_piece_87 {l0 l1 l2 l3 l4 l5 l6 l7 l8 : Option cf_AV} {x : Int32} {st : List cf_AV} {w : cf_Wd} {Q : cf_Rs → Prop} : cf_wp T_P_piece (87, [l0, l1, l2, l3, l4, l5, l6, l7, l8, some (.inl x)], st, w) Q ↔ cf_wp T_P_piece (89, [l0, l1, l2, l3, l4, l5, l6, l7, l8, some (.inl x)], .inl x :: st, w) Q := cf_w1 rfl
theorem r_P_piece_89 {l0 l1 l2 l3 l4 l5 l6 l7 l8 l9 : Option cf_AV} {x : Int32} {st : List cf_AV} {w : cf_Wd} {Q : cf_Rs → Prop} : cf_wp T_P_piece (89, [l0, l1, l2, l3, l4, l5, l6, l7, l8, l9], .inl x :: st, w) Q ↔ (if x = 0 then cf_wp T_P_piece (99, [l0, l1, l2, l3, l4, l5, l6, l7, l8, l9], st, w) Q else cf_wp T_P_piece (92, [l0, l1, l2, l3, l4, l5, l6, l7, l8, l9], st, w) Q) := cf_wi rfl
theorem r_P_piece_92 {l0 l1 l2 l3 l4 l5 l6 l8 l9 : Option cf_AV} {x : Int32} {st : List cf_AV} {w : cf_Wd} {Q : cf_Rs → Prop} : cf_wp T_P_piece (92, [l0, l1, l2, l3, l4, l5, l6, some (.inl x), l8, l9], st, w) Q ↔ cf_wp T_P_piece (94, [l0, l1, l2, l3, l4, l5, l6, some (.inl x), l8, l9], .inl x :: st, w) Q := cf_w1 rfl
theorem r_P_piece_94 {l0 l1 l2 l3 l4 l5 l6 l7 l8 l9 : Option cf_AV} {st : List cf_AV} {w : cf_Wd} {Q : cf_Rs → Prop} : cf_wp T_P_piece (94, [l0, l1, l2, l3, l4, l5, l6, l7, l8, l9], st, w) Q ↔ cf_wp T_P_piece (95, [l0, l1, l2, l3, l4, l5, l6, l7, l8, l9], .inl 1 :: st, w) Q := cf_w1 rfl
theorem r_P_piece_95 {l0 l1 l2 l3 l4 l5 l6 l7 l8 l9 : Option cf_AV} {x y : Int32} {st : List cf_AV} {w : cf_Wd} {Q : cf_Rs → Prop} : cf_wp T_P_piece (95, [l0, l1, l2, l3, l4, l5, l6, l7, l8, l9], .inl y :: .inl x :: st, w) Q ↔ cf_wp T_P_piece (96, [l0, l1, l2, l3, l4, l5, l6, l7, l8, l9], .inl (x + y) :: st, w) Q := cf_w1 rfl
theorem r_P_piece_96 {l0 l1 l2 l3 l4 l5 l6 l7 l8 l9 : Option cf_AV} {st : List cf_AV} {w : cf_Wd} {Q : cf_Rs → Prop} : cf_wp T_P_piece (96, [l0, l1, l2, l3, l4, l5, l6, l7, l8, l9], st, w) Q ↔ cf_wp T_P_piece (101, [l0, l1, l2, l3, l4, l5, l6, l7, l8, l9], st, w) Q := cf_w1 rfl
theorem r_P_piece_99 {l0 l1 l2 l3 l4 l5 l6 l8 l9 : Option cf_AV} {x : Int32} {st : List cf_AV} {w : cf_Wd} {Q : cf_Rs → Prop} : cf_wp T_P_piece (99, [l0, l1, l2, l3, l4, l5, l6, some (.inl x), l8, l9], st, w) Q ↔ cf_wp T_P_piece (101, [l0, l1, l2, l3, l4, l5, l6, some (.inl x), l8, l9], .inl x :: st, w) Q := cf_w1 rfl
theorem r_P_piece_101 {l0 l1 l2 l3 l4 l5 l6 l7 l8 l9 : Option cf_AV} {x : Int32} {st : List cf_AV} {w : cf_Wd} {Q : cf_Rs → Prop} : cf_wp T_P_piece (101, [l0, l1, l2, l3, l4, l5, l6, l7, l8, l9], .inl x :: st, w) Q ↔ cf_wp T_P_piece (103, [l0, l1, l2, l3, l4, l5, l6, some (.inl x), l8, l9], st, w) Q := cf_w1 rfl
theorem r_P_piece_103 {l0 l1 l2 l3 l4 l5 l6 l7 l9 : Option cf_AV} {x : Int32} {st : List cf_AV} {w : cf_Wd} {Q : cf_Rs → Prop} : cf_wp T_P_piece (103, [l0, l1, l2, l3, l4, l5, l6, l7, some (.inl x), l9], st, w) Q ↔ cf_wp T_P_piece (106, [l0, l1, l2, l3, l4, l5, l6, l7, some (.inl (x + 1)), l9], st, w) Q := cf_w1 rfl
theorem r_P_piece_106 {l0 l1 l2 l3 l4 l5 l6 l7 l8 l9 : Option cf_AV} {st : List cf_AV} {w : cf_Wd} {Q : cf_Rs → Prop} : cf_wp T_P_piece (106, [l0, l1, l2, l3, l4, l5, l6, l7, l8, l9], st, w) Q ↔ cf_wp T_P_piece (30, [l0, l1, l2, l3, l4, l5, l6, l7, l8, l9], st, w) Q := cf_w1 rfl
theorem r_P_piece_109 {l0 l1 l2 l3 l4 l5 l7 l8 l9 : Option cf_AV} {x : Int32} {st : List cf_AV} {w : cf_Wd} {Q : cf_Rs → Prop} : cf_wp T_P_piece (109, [l0, l1, l2, l3, l4, l5, some (.inl x), l7, l8, l9], st, w) Q ↔ cf_wp T_P_piece (111, [l0, l1, l2, l3, l4, l5, some (.inl x), l7, l8, l9], .inl x :: st, w) Q := cf_w1 rfl
theorem r_P_piece_111 {l0 l1 l2 l3 l4 l5 l6 l7 l8 l9 : Option cf_AV} {x : Int32} {w : cf_Wd} {P : Int32 → cf_Wd → Prop} : cf_wp T_P_piece (111, [l0, l1, l2, l3, l4, l5, l6, l7, l8, l9], [.inl x], w) (cf_qi P) ↔ P x w := Iff.trans (cf_wr (q := (some (.inl x), w)) rfl) Iff.rfl
theorem e_P_piece {a0 a1 a2 : Int32} {w : cf_Wd} {P : Int32 → cf_Wd → Prop} (h : cf_wp T_P_piece (0, [some (.inl a0), some (.inl a1), some (.inl a2), none, none, none, none, none, none, none], [], w) (cf_qi P)) : ∃ x w1, F_P_piece [.inl a0, .inl a1, .inl a2] w = some (some (.inl x), w1) ∧ P x w1 := cf_ei rfl (Nat.le_of_ble_eq_true rfl) h
noncomputable def T_P_failing (pc : Nat) : cf_Rw := bif Nat.ble pc 34 then
 (bif Nat.ble pc 16 then
  (bif Nat.ble pc 6 then
   (bif Nat.ble pc 1 then
    (bif Nat.ble pc 0 then
     (bif Nat.beq pc 0 then cf_const 0 1 else cf_stuck)
     else
     (bif Nat.beq pc 1 then cf_istore 4 3 else cf_stuck))
    else
    (bif Nat.ble pc 3 then
     (bif Nat.beq pc 3 then cf_iload 4 5 else cf_stuck)
     else
     (bif Nat.ble pc 5 then
      (bif Nat.beq pc 5 then cf_iload 1 6 else cf_stuck)
      else
      (bif Nat.beq pc 6 then cf_icge 72 9 else cf_stuck))))
   else
   (bif Nat.ble pc 10 then
    (bif Nat.ble pc 9 then
     (bif Nat.beq pc 9 then cf_aload 0 10 else cf_stuck)
     else
     (bif Nat.beq pc 10 then cf_get 5 22 13 else cf_stuck))
    else
    (bif Nat.ble pc 13 then
     (bif Nat.beq pc 13 then cf_iload 4 15 else cf_stuck)
     else
     (bif Nat.ble pc 15 then
      (bif Nat.beq pc 15 then cf_iload 1 16 else cf_stuck)
      else
      (bif Nat.beq pc 16 then cf_call 3 F_P_piece 19 else cf_stuck)))))
  else
  (bif Nat.ble pc 26 then
   (bif Nat.ble pc 21 then
    (bif Nat.ble pc 19 then
     (bif Nat.beq pc 19 then cf_istore 5 21 else cf_stuck)
     else
     (bif Nat.beq pc 21 then cf_iload 2 22 else cf_stuck))
    else
    (bif Nat.ble pc 22 then
     (bif Nat.beq pc 22 then cf_ifeq 37 25 else cf_stuck)
     else
     (bif Nat.ble pc 25 then
      (bif Nat.beq pc 25 then cf_aload 0 26 else cf_stuck)
      else
      (bif Nat.beq pc 26 then cf_get 5 22 29 else cf_stuck))))
   else
   (bif Nat.ble pc 31 then
    (bif Nat.ble pc 29 then
     (bif Nat.beq pc 29 then cf_iload 5 31 else cf_stuck)
     else
     (bif Nat.beq pc 31 then cf_const (-1) 32 else cf_stuck))
    else
    (bif Nat.ble pc 32 then
     (bif Nat.beq pc 32 then cf_bin (fun x y => x ^^^ y) 33 else cf_stuck)
     else
     (bif Nat.ble pc 33 then
      (bif Nat.beq pc 33 then cf_bin (fun x y => x &&& y) 34 else cf_stuck)
      else
      (bif Nat.beq pc 34 then cf_goto 39 else cf_stuck))))))
 else
 (bif Nat.ble pc 55 then
  (bif Nat.ble pc 44 then
   (bif Nat.ble pc 39 then
    (bif Nat.ble pc 37 then
     (bif Nat.beq pc 37 then cf_iload 5 39 else cf_stuck)
     else
     (bif Nat.beq pc 39 then cf_istore 5 41 else cf_stuck))
    else
    (bif Nat.ble pc 41 then
     (bif Nat.beq pc 41 then cf_aload 0 42 else cf_stuck)
     else
     (bif Nat.ble pc 42 then
      (bif Nat.beq pc 42 then cf_iload 5 44 else cf_stuck)
      else
      (bif Nat.beq pc 44 then cf_iload 3 45 else cf_stuck))))
   else
   (bif Nat.ble pc 48 then
    (bif Nat.ble pc 45 then
     (bif Nat.beq pc 45 then cf_call 3 F_P_askSet 48 else cf_stuck)
     else
     (bif Nat.beq pc 48 then cf_istore 6 50 else cf_stuck))
    else
    (bif Nat.ble pc 50 then
     (bif Nat.beq pc 50 then cf_iload 6 52 else cf_stuck)
     else
     (bif Nat.ble pc 52 then
      (bif Nat.beq pc 52 then cf_ifne 57 55 else cf_stuck)
      else
      (bif Nat.beq pc 55 then cf_const (-1) 56 else cf_stuck)))))
  else
  (bif Nat.ble pc 63 then
   (bif Nat.ble pc 57 then
    (bif Nat.ble pc 56 then
     (bif Nat.beq pc 56 then cf_iret else cf_stuck)
     else
     (bif Nat.beq pc 57 then cf_iload 6 59 else cf_stuck))
    else
    (bif Nat.ble pc 59 then
     (bif Nat.beq pc 59 then cf_const 2 60 else cf_stuck)
     else
     (bif Nat.ble pc 60 then
      (bif Nat.beq pc 60 then cf_icne 66 63 else cf_stuck)
      else
      (bif Nat.beq pc 63 then cf_iload 4 65 else cf_stuck))))
   else
   (bif Nat.ble pc 66 then
    (bif Nat.ble pc 65 then
     (bif Nat.beq pc 65 then cf_iret else cf_stuck)
     else
     (bif Nat.beq pc 66 then cf_iinc 4 1 69 else cf_stuck))
    else
    (bif Nat.ble pc 69 then
     (bif Nat.beq pc 69 then cf_goto 3 else cf_stuck)
     else
     (bif Nat.ble pc 72 then
      (bif Nat.beq pc 72 then cf_iload 1 73 else cf_stuck)
      else
      (bif Nat.beq pc 73 then cf_iret else cf_stuck))))))
noncomputable def F_P_failing : List cf_AV → cf_Wd → Option cf_Rs := cf_F T_P_failing 7 (some .int) (cf_shV 15 3)
theorem r_P_failing_0 {l0 l1 l2 l3 l4 l5 l6 : Option cf_AV} {st : List cf_AV} {w : cf_Wd} {Q : cf_Rs → Prop} : cf_wp T_P_failing (0, [l0, l1, l2, l3, l4, l5, l6], st, w) Q ↔ cf_wp T_P_failing (1, [l0, l1, l2, l3, l4, l5, l6], .inl 0 :: st, w) Q := cf_w1 rfl
theorem r_P_failing_1 {l0 l1 l2 l3 l4 l5 l6 : Option cf_AV} {x : Int32} {st : List cf_AV} {w : cf_Wd} {Q : cf_Rs → Prop} : cf_wp T_P_failing (1, [l0, l1, l2, l3, l4, l5, l6], .inl x :: st, w) Q ↔ cf_wp T_P_failing (3, [l0, l1, l2, l3, some (.inl x), l5, l6], st, w) Q := cf_w1 rfl
theorem r_P_failing_3 {l0 l1 l2 l3 l5 l6 : Option cf_AV} {x : Int32} {st : List cf_AV} {w : cf_Wd} {Q : cf_Rs → Prop} : cf_wp T_P_failing (3, [l0, l1, l2, l3, some (.inl x), l5, l6], st, w) Q ↔ cf_wp T_P_failing (5, [l0, l1, l2, l3, some (.inl x), l5, l6], .inl x :: st, w) Q := cf_w1 rfl
theorem r_P_failing_5 {l0 l2 l3 l4 l5 l6 : Option cf_AV} {x : Int32} {st : List cf_AV} {w : cf_Wd} {Q : cf_Rs → Prop} : cf_wp T_P_failing (5, [l0, some (.inl x), l2, l3, l4, l5, l6], st, w) Q ↔ cf_wp T_P_failing (6, [l0, some (.inl x), l2, l3, l4, l5, l6], .inl x :: st, w) Q := cf_w1 rfl
theorem r_P_failing_6 {l0 l1 l2 l3 l4 l5 l6 : Option cf_AV} {x y : Int32} {st : List cf_AV} {w : cf_Wd} {Q : cf_Rs → Prop} : cf_wp T_P_failing (6, [l0, l1, l2, l3, l4, l5, l6], .inl y :: .inl x :: st, w) Q ↔ (if y ≤ x then cf_wp T_P_failing (72, [l0, l1, l2, l3, l4, l5, l6], st, w) Q else cf_wp T_P_failing (9, [l0, l1, l2, l3, l4, l5, l6], st, w) Q) := cf_wi rfl
theorem r_P_failing_9 {l1 l2 l3 l4 l5 l6 : Option cf_AV} {k : Nat} {st : List cf_AV} {w : cf_Wd} {Q : cf_Rs → Prop} : cf_wp T_P_failing (9, [some (.inr k), l1, l2, l3, l4, l5, l6], st, w) Q ↔ cf_wp T_P_failing (10, [some (.inr k), l1, l2, l3, l4, l5, l6], .inr k :: st, w) Q := cf_w1 rfl
theorem r_P_failing_10 {l0 l1 l2 l3 l4 l5 l6 : Option cf_AV} {st : List cf_AV} {w : cf_Wd} {Q : cf_Rs → Prop} : cf_wp T_P_failing (10, [l0, l1, l2, l3, l4, l5, l6], .inr 15 :: st, w) Q ↔ cf_wp T_P_failing (13, [l0, l1, l2, l3, l4, l5, l6], .inl (w 15 22) :: st, w) Q := cf_w1 rfl
theorem r_P_failing_13 {l0 l1 l2 l3 l5 l6 : Option cf_AV} {x : Int32} {st : List cf_AV} {w : cf_Wd} {Q : cf_Rs → Prop} : cf_wp T_P_failing (13, [l0, l1, l2, l3, some (.inl x), l5, l6], st, w) Q ↔ cf_wp T_P_failing (15, [l0, l1, l2, l3, some (.inl x), l5, l6], .inl x :: st, w) Q := cf_w1 rfl
theorem r_P_failing_15 {l0 l2 l3 l4 l5 l6 : Option cf_AV} {x : Int32} {st : List cf_AV} {w : cf_Wd} {Q : cf_Rs → Prop} : cf_wp T_P_failing (15, [l0, some (.inl x), l2, l3, l4, l5, l6], st, w) Q ↔ cf_wp T_P_failing (16, [l0, some (.inl x), l2, l3, l4, l5, l6], .inl x :: st, w) Q := cf_w1 rfl
theorem r_P_failing_16 {l0 l1 l2 l3 l4 l5 l6 : Option cf_AV} {a2 a1 a0 : Int32} {w : cf_Wd} {Q : cf_Rs → Prop} : cf_wp T_P_failing (16, [l0, l1, l2, l3, l4, l5, l6], [.inl a2, .inl a1, .inl a0], w) Q ↔ ∃ x w1, F_P_piece [.inl a0, .inl a1, .inl a2] w = some (some (.inl x), w1) ∧ cf_wp T_P_failing (19, [l0, l1, l2, l3, l4, l5, l6], [.inl x], w1) Q := cf_wci (n := 3) (F := F_P_piece) (nx := 19) rfl rfl cf_F_i
theorem c_P_failing_16 {l0 l1 l2 l3 l4 l5 l6 : Option cf_AV} {a2 a1 a0 : Int32} {x1 : Int32} {w1 : cf_Wd} {w : cf_Wd} {Q : cf_Rs → Prop} (hs : F_P_piece [.inl a0, .inl a1, .inl a2] w = some (some (.inl x1), w1)) : cf_wp T_P_failing (16, [l0, l1, l2, l3, l4, l5, l6], [.inl a2, .inl a1, .inl a0], w) Q ↔ cf_wp T_P_failing (19, [l0, l1, l2, l3, l4, l5, l6], [.inl x1], w1) Q := r_P_failing_16.trans (cf_xi hs)
theorem r_P_failing_19 {l0 l1 l2 l3 l4 l5 l6 : Option cf_AV} {x : Int32} {st : List cf_AV} {w : cf_Wd} {Q : cf_Rs → Prop} : cf_wp T_P_failing (19, [l0, l1, l2, l3, l4, l5, l6], .inl x :: st, w) Q ↔ cf_wp T_P_failing (21, [l0, l1, l2, l3, l4, some (.inl x), l6], st, w) Q := cf_w1 rfl
theorem r_P_failing_21 {l0 l1 l3 l4 l5 l6 : Option cf_AV} {x : Int32} {st : List cf_AV} {w : cf_Wd} {Q : cf_Rs → Prop} : cf_wp T_P_failing (21, [l0, l1, some (.inl x), l3, l4, l5, l6], st, w) Q ↔ cf_wp T_P_failing (22, [l0, l1, some (.inl x), l3, l4, l5, l6], .inl x :: st, w) Q := cf_w1 rfl
theorem r_P_failing_22 {l0 l1 l2 l3 l4 l5 l6 : Option cf_AV} {x : Int32} {st : List cf_AV} {w : cf_Wd} {Q : cf_Rs → Prop} : cf_wp T_P_failing (22, [l0, l1, l2, l3, l4, l5, l6], .inl x :: st, w) Q ↔ (if x = 0 then cf_wp T_P_failing (37, [l0, l1, l2, l3, l4, l5, l6], st, w) Q else cf_wp T_P_failing (25, [l0, l1, l2, l3, l4, l5, l6], st, w) Q) := cf_wi rfl
theorem r_P_failing_25 {l1 l2 l3 l4 l5 l6 : Option cf_AV} {k : Nat} {st : List cf_AV} {w : cf_Wd} {Q : cf_Rs → Prop} : cf_wp T_P_failing (25, [some (.inr k), l1, l2, l3, l4, l5, l6], st, w) Q ↔ cf_wp T_P_failing (26, [some (.inr k), l1, l2, l3, l4, l5, l6], .inr k :: st, w) Q := cf_w1 rfl
theorem r_P_failing_26 {l0 l1 l2 l3 l4 l5 l6 : Option cf_AV} {st : List cf_AV} {w : cf_Wd} {Q : cf_Rs → Prop} : cf_wp T_P_failing (26, [l0, l1, l2, l3, l4, l5, l6], .inr 15 :: st, w) Q ↔ cf_wp T_P_failing (29, [l0, l1, l2, l3, l4, l5, l6], .inl (w 15 22) :: st, w) Q := cf_w1 rfl
theorem r_P_failing_29 {l0 l1 l2 l3 l4 l6 : Option cf_AV} {x : Int32} {st : List cf_AV} {w : cf_Wd} {Q : cf_Rs → Prop} : cf_wp T_P_failing (29, [l0, l1, l2, l3, l4, some (.inl x), l6], st, w) Q ↔ cf_wp T_P_failing (31, [l0, l1, l2, l3, l4, some (.inl x), l6], .inl x :: st, w) Q := cf_w1 rfl
theorem r_P_failing_31 {l0 l1 l2 l3 l4 l5 l6 : Option cf_AV} {st : List cf_AV} {w : cf_Wd} {Q : cf_Rs → Prop} : cf_wp T_P_failing (31, [l0, l1, l2, l3, l4, l5, l6], st, w) Q ↔ cf_wp T_P_failing (32, [l0, l1, l2, l3, l4, l5, l6], .inl (-1) :: st, w) Q := cf_w1 rfl
theorem r_P_failing_32 {l0 l1 l2 l3 l4 l5 l6 : Option cf_AV} {x y : Int32} {st : List cf_AV} {w : cf_Wd} {Q : cf_Rs → Prop} : cf_wp T_P_failing (32, [l0, l1, l2, l3, l4, l5, l6], .inl y :: .inl x :: st, w) Q ↔ cf_wp T_P_failing (33, [l0, l1, l2, l3, l4, l5, l6], .inl (x ^^^ y) :: st, w) Q := cf_w1 rfl
theorem r_P_failing_33 {l0 l1 l2 l3 l4 l5 l6 : Option cf_AV} {x y : Int32} {st : List cf_AV} {w : cf_Wd} {Q : cf_Rs → Prop} : cf_wp T_P_failing (33, [l0, l1, l2, l3, l4, l5, l6], .inl y :: .inl x :: st, w) Q ↔ cf_wp T_P_failing (34, [l0, l1, l2, l3, l4, l5, l6], .inl (x &&& y) :: st, w) Q := cf_w1 rfl
theorem r_P_failing_34 {l0 l1 l2 l3 l4 l5 l6 : Option cf_AV} {st : List cf_AV} {w : cf_Wd} {Q : cf_Rs → Prop} : cf_wp T_P_failing (34, [l0, l1, l2, l3, l4, l5, l6], st, w) Q ↔ cf_wp T_P_failing (39, [l0, l1, l2, l3, l4, l5, l6], st, w) Q := cf_w1 rfl
theorem r_P_failing_37 {l0 l1 l2 l3 l4 l6 : Option cf_AV} {x : Int32} {st : List cf_AV} {w : cf_Wd} {Q : cf_Rs → Prop} : cf_wp T_P_failing (37, [l0, l1, l2, l3, l4, some (.inl x), l6], st, w) Q ↔ cf_wp T_P_failing (39, [l0, l1, l2, l3, l4, some (.inl x), l6], .inl x :: st, w) Q := cf_w1 rfl
theorem r_P_failing_39 {l0 l1 l2 l3 l4 l5 l6 : Option cf_AV} {x : Int32} {st : List cf_AV} {w : cf_Wd} {Q : cf_Rs → Prop} : cf_wp T_P_failing (39, [l0, l1, l2, l3, l4, l5, l6], .inl x :: st, w) Q ↔ cf_wp T_P_failing (41, [l0, l1, l2, l3, l4, some (.inl x), l6], st, w) Q := cf_w1 rfl
theorem r_P_failing_41 {l1 l2 l3 l4 l5 l6 : Option cf_AV} {k : Nat} {st : List cf_AV} {w : cf_Wd} {Q : cf_Rs → Prop} : cf_wp T_P_failing (41, [some (.inr k), l1, l2, l3, l4, l5, l6], st, w) Q ↔ cf_wp T_P_failing (42, [some (.inr k), l1, l2, l3, l4, l5, l6], .inr k :: st, w) Q := cf_w1 rfl
theorem r_P_failing_42 {l0 l1 l2 l3 l4 l6 : Option cf_AV} {x : Int32} {st : List cf_AV} {w : cf_Wd} {Q : cf_Rs → Prop} : cf_wp T_P_failing (42, [l0, l1, l2, l3, l4, some (.inl x), l6], st, w) Q ↔ cf_wp T_P_failing (44, [l0, l1, l2, l3, l4, some (.inl x), l6], .inl x :: st, w) Q := cf_w1 rfl
theorem r_P_failing_44 {l0 l1 l2 l4 l5 l6 : Option cf_AV} {x : Int32} {st : List cf_AV} {w : cf_Wd} {Q : cf_Rs → Prop} : cf_wp T_P_failing (44, [l0, l1, l2, some (.inl x), l4, l5, l6], st, w) Q ↔ cf_wp T_P_failing (45, [l0, l1, l2, some (.inl x), l4, l5, l6], .inl x :: st, w) Q := cf_w1 rfl
theorem r_P_failing_45 {l0 l1 l2 l3 l4 l5 l6 : Option cf_AV} {a2 a1 : Int32} {w : cf_Wd} {Q : cf_Rs → Prop} : cf_wp T_P_failing (45, [l0, l1, l2, l3, l4, l5, l6], [.inl a2, .inl a1, .inr 15], w) Q ↔ ∃ x w1, F_P_askSet [.inr 15, .inl a1, .inl a2] w = some (some (.inl x), w1) ∧ cf_wp T_P_failing (48, [l0, l1, l2, l3, l4, l5, l6], [.inl x], w1) Q := cf_wci (n := 3) (F := F_P_askSet) (nx := 48) rfl rfl cf_F_i
theorem c_P_failing_45 {l0 l1 l2 l3 l4 l5 l6 : Option cf_AV} {a2 a1 : Int32} {x1 : Int32} {w1 : cf_Wd} {w : cf_Wd} {Q : cf_Rs → Prop} (hs : F_P_askSet [.inr 15, .inl a1, .inl a2] w = some (some (.inl x1), w1)) : cf_wp T_P_failing (45, [l0, l1, l2, l3, l4, l5, l6], [.inl a2, .inl a1, .inr 15], w) Q ↔ cf_wp T_P_failing (48, [l0, l1, l2, l3, l4, l5, l6], [.inl x1], w1) Q := r_P_failing_45.trans (cf_xi hs)
theorem r_P_failing_48 {l0 l1 l2 l3 l4 l5 l6 : Option cf_AV} {x : Int32} {st : List cf_AV} {w : cf_Wd} {Q : cf_Rs → Prop} : cf_wp T_P_failing (48, [l0, l1, l2, l3, l4, l5, l6], .inl x :: st, w) Q ↔ cf_wp T_P_failing (50, [l0, l1, l2, l3, l4, l5, some (.inl x)], st, w) Q := cf_w1 rfl
theorem r_P_failing_50 {l0 l1 l2 l3 l4 l5 : Option cf_AV} {x : Int32} {st : List cf_AV} {w : cf_Wd} {Q : cf_Rs → Prop} : cf_wp T_P_failing (50, [l0, l1, l2, l3, l4, l5, some (.inl x)], st, w) Q ↔ cf_wp T_P_failing (52, [l0, l1, l2, l3, l4, l5, some (.inl x)], .inl x :: st, w) Q := cf_w1 rfl
theorem r_P_failing_52 {l0 l1 l2 l3 l4 l5 l6 : Option cf_AV} {x : Int32} {st : List cf_AV} {w : cf_Wd} {Q : cf_Rs → Prop} : cf_wp T_P_failing (52, [l0, l1, l2, l3, l4, l5, l6], .inl x :: st, w) Q ↔ (if ¬ x = 0 then cf_wp T_P_failing (57, [l0, l1, l2, l3, l4, l5, l6], st, w) Q else cf_wp T_P_failing (55, [l0, l1, l2, l3, l4, l5, l6], st, w) Q) := cf_wi rfl
theorem r_P_failing_55 {l0 l1 l2 l3 l4 l5 l6 : Option cf_AV} {st : List cf_AV} {w : cf_Wd} {Q : cf_Rs → Prop} : cf_wp T_P_failing (55, [l0, l1, l2, l3, l4, l5, l6], st, w) Q ↔ cf_wp T_P_failing (56, [l0, l1, l2, l3, l4, l5, l6], .inl (-1) :: st, w) Q := cf_w1 rfl
theorem r_P_failing_56 {l0 l1 l2 l3 l4 l5 l6 : Option cf_AV} {x : Int32} {w : cf_Wd} {P : Int32 → cf_Wd → Prop} : cf_wp T_P_failing (56, [l0, l1, l2, l3, l4, l5, l6], [.inl x], w) (cf_qi P) ↔ P x w := Iff.trans (cf_wr (q := (some (.inl x), w)) rfl) Iff.rfl
theorem r_P_failing_57 {l0 l1 l2 l3 l4 l5 : Option cf_AV} {x : Int32} {st : List cf_AV} {w : cf_Wd} {Q : cf_Rs → Prop} : cf_wp T_P_failing (57, [l0, l1, l2, l3, l4, l5, some (.inl x)], st, w) Q ↔ cf_wp T_P_failing (59, [l0, l1, l2, l3, l4, l5, some (.inl x)], .inl x :: st, w) Q := cf_w1 rfl
theorem r_P_failing_59 {l0 l1 l2 l3 l4 l5 l6 : Option cf_AV} {st : List cf_AV} {w : cf_Wd} {Q : cf_Rs → Prop} : cf_wp T_P_failing (59, [l0, l1, l2, l3, l4, l5, l6], st, w) Q ↔ cf_wp T_P_failing (60, [l0, l1, l2, l3, l4, l5, l6], .inl 2 :: st, w) Q := cf_w1 rfl
theorem r_P_failing_60 {l0 l1 l2 l3 l4 l5 l6 : Option cf_AV} {x y : Int32} {st : List cf_AV} {w : cf_Wd} {Q : cf_Rs → Prop} : cf_wp T_P_failing (60, [l0, l1, l2, l3, l4, l5, l6], .inl y :: .inl x :: st, w) Q ↔ (if ¬ x = y then cf_wp T_P_failing (66, [l0, l1, l2, l3, l4, l5, l6], st, w) Q else cf_wp T_P_failing (63, [l0, l1, l2, l3, l4, l5, l6], st, w) Q) := cf_wi rfl
theorem r_P_failing_63 {l0 l1 l2 l3 l5 l6 : Option cf_AV} {x : Int32} {st : List cf_AV} {w : cf_Wd} {Q : cf_Rs → Prop} : cf_wp T_P_failing (63, [l0, l1, l2, l3, some (.inl x), l5, l6], st, w) Q ↔ cf_wp T_P_failing (65, [l0, l1, l2, l3, some (.inl x), l5, l6], .inl x :: st, w) Q := cf_w1 rfl
theorem r_P_failing_65 {l0 l1 l2 l3 l4 l5 l6 : Option cf_AV} {x : Int32} {w : cf_Wd} {P : Int32 → cf_Wd → Prop} : cf_wp T_P_failing (65, [l0, l1, l2, l3, l4, l5, l6], [.inl x], w) (cf_qi P) ↔ P x w := Iff.trans (cf_wr (q := (some (.inl x), w)) rfl) Iff.rfl
theorem r_P_failing_66 {l0 l1 l2 l3 l5 l6 : Option cf_AV} {x : Int32} {st : List cf_AV} {w : cf_Wd} {Q : cf_Rs → Prop} : cf_wp T_P_failing (66, [l0, l1, l2, l3, some (.inl x), l5, l6], st, w) Q ↔ cf_wp T_P_failing (69, [l0, l1, l2, l3, some (.inl (x + 1)), l5, l6], st, w) Q := cf_w1 rfl
theorem r_P_failing_69 {l0 l1 l2 l3 l4 l5 l6 : Option cf_AV} {st : List cf_AV} {w : cf_Wd} {Q : cf_Rs → Prop} : cf_wp T_P_failing (69, [l0, l1, l2, l3, l4, l5, l6], st, w) Q ↔ cf_wp T_P_failing (3, [l0, l1, l2, l3, l4, l5, l6], st, w) Q := cf_w1 rfl
theorem r_P_failing_72 {l0 l2 l3 l4 l5 l6 : Option cf_AV} {x : Int32} {st : List cf_AV} {w : cf_Wd} {Q : cf_Rs → Prop} : cf_wp T_P_failing (72, [l0, some (.inl x), l2, l3, l4, l5, l6], st, w) Q ↔ cf_wp T_P_failing (73, [l0, some (.inl x), l2, l3, l4, l5, l6], .inl x :: st, w) Q := cf_w1 rfl
theorem r_P_failing_73 {l0 l1 l2 l3 l4 l5 l6 : Option cf_AV} {x : Int32} {w : cf_Wd} {P : Int32 → cf_Wd → Prop} : cf_wp T_P_failing (73, [l0, l1, l2, l3, l4, l5, l6], [.inl x], w) (cf_qi P) ↔ P x w := Iff.trans (cf_wr (q := (some (.inl x), w)) rfl) Iff.rfl
theorem e_P_failing {a1 a2 a3 : Int32} {w : cf_Wd} {P : Int32 → cf_Wd → Prop} (h : cf_wp T_P_failing (0, [some (.inr 15), some (.inl a1), some (.inl a2), some (.inl a3), none, none, none], [], w) (cf_qi P)) : ∃ x w1, F_P_failing [.inr 15, .inl a1, .inl a2, .inl a3] w = some (some (.inl x), w1) ∧ P x w1 := cf_ei rfl (Nat.le_of_ble_eq_true rfl) h
noncomputable def T_P_reduce (pc : Nat) : cf_Rw := bif Nat.ble pc 105 then
 (bif Nat.ble pc 49 then
  (bif Nat.ble pc 23 then
   (bif Nat.ble pc 10 then
    (bif Nat.ble pc 3 then
     (bif Nat.ble pc 1 then
      (bif Nat.ble pc 0 then
       (bif Nat.beq pc 0 then cf_const 0 1 else cf_stuck)
       else
       (bif Nat.beq pc 1 then cf_istore 1 2 else cf_stuck))
      else
      (bif Nat.ble pc 2 then
       (bif Nat.beq pc 2 then cf_const 0 3 else cf_stuck)
       else
       (bif Nat.beq pc 3 then cf_istore 2 4 else cf_stuck)))
     else
     (bif Nat.ble pc 5 then
      (bif Nat.ble pc 4 then
       (bif Nat.beq pc 4 then cf_iload 2 5 else cf_stuck)
       else
       (bif Nat.beq pc 5 then cf_const 8 7 else cf_stuck))
      else
      (bif Nat.ble pc 7 then
       (bif Nat.beq pc 7 then cf_icge 62 10 else cf_stuck)
       else
       (bif Nat.beq pc 10 then cf_aload 0 11 else cf_stuck))))
    else
    (bif Nat.ble pc 17 then
     (bif Nat.ble pc 14 then
      (bif Nat.ble pc 11 then
       (bif Nat.beq pc 11 then cf_get 5 3 14 else cf_stuck)
       else
       (bif Nat.beq pc 14 then cf_const 8 16 else cf_stuck))
      else
      (bif Nat.ble pc 16 then
       (bif Nat.beq pc 16 then cf_aload 0 17 else cf_stuck)
       else
       (bif Nat.beq pc 17 then cf_get 5 21 20 else cf_stuck)))
     else
     (bif Nat.ble pc 21 then
      (bif Nat.ble pc 20 then
       (bif Nat.beq pc 20 then cf_bin (fun x y => x * y) 21 else cf_stuck)
       else
       (bif Nat.beq pc 21 then cf_iload 2 22 else cf_stuck))
      else
      (bif Nat.ble pc 22 then
       (bif Nat.beq pc 22 then cf_bin (fun x y => x + y) 23 else cf_stuck)
       else
       (bif Nat.beq pc 23 then cf_iald 24 else cf_stuck)))))
   else
   (bif Nat.ble pc 38 then
    (bif Nat.ble pc 30 then
     (bif Nat.ble pc 25 then
      (bif Nat.ble pc 24 then
       (bif Nat.beq pc 24 then cf_aload 0 25 else cf_stuck)
       else
       (bif Nat.beq pc 25 then cf_get 5 3 28 else cf_stuck))
      else
      (bif Nat.ble pc 28 then
       (bif Nat.beq pc 28 then cf_const 8 30 else cf_stuck)
       else
       (bif Nat.beq pc 30 then cf_aload 0 31 else cf_stuck)))
     else
     (bif Nat.ble pc 34 then
      (bif Nat.ble pc 31 then
       (bif Nat.beq pc 31 then cf_get 5 1 34 else cf_stuck)
       else
       (bif Nat.beq pc 34 then cf_aload 0 35 else cf_stuck))
      else
      (bif Nat.ble pc 35 then
       (bif Nat.beq pc 35 then cf_get 5 21 38 else cf_stuck)
       else
       (bif Nat.beq pc 38 then cf_iald 39 else cf_stuck))))
    else
    (bif Nat.ble pc 42 then
     (bif Nat.ble pc 40 then
      (bif Nat.ble pc 39 then
       (bif Nat.beq pc 39 then cf_bin (fun x y => x * y) 40 else cf_stuck)
       else
       (bif Nat.beq pc 40 then cf_iload 2 41 else cf_stuck))
      else
      (bif Nat.ble pc 41 then
       (bif Nat.beq pc 41 then cf_bin (fun x y => x + y) 42 else cf_stuck)
       else
       (bif Nat.beq pc 42 then cf_iald 43 else cf_stuck)))
     else
     (bif Nat.ble pc 46 then
      (bif Nat.ble pc 43 then
       (bif Nat.beq pc 43 then cf_iceq 54 46 else cf_stuck)
       else
       (bif Nat.beq pc 46 then cf_iload 1 47 else cf_stuck))
      else
      (bif Nat.ble pc 47 then
       (bif Nat.beq pc 47 then cf_const 1 48 else cf_stuck)
       else
       (bif Nat.ble pc 48 then
        (bif Nat.beq pc 48 then cf_iload 2 49 else cf_stuck)
        else
        (bif Nat.beq pc 49 then cf_bin (fun x y => x <<< (y &&& 31)) 50 else cf_stuck)))))))
  else
  (bif Nat.ble pc 80 then
   (bif Nat.ble pc 63 then
    (bif Nat.ble pc 55 then
     (bif Nat.ble pc 51 then
      (bif Nat.ble pc 50 then
       (bif Nat.beq pc 50 then cf_bin (fun x y => x ||| y) 51 else cf_stuck)
       else
       (bif Nat.beq pc 51 then cf_goto 55 else cf_stuck))
      else
      (bif Nat.ble pc 54 then
       (bif Nat.beq pc 54 then cf_iload 1 55 else cf_stuck)
       else
       (bif Nat.beq pc 55 then cf_istore 1 56 else cf_stuck)))
     else
     (bif Nat.ble pc 59 then
      (bif Nat.ble pc 56 then
       (bif Nat.beq pc 56 then cf_iinc 2 1 59 else cf_stuck)
       else
       (bif Nat.beq pc 59 then cf_goto 4 else cf_stuck))
      else
      (bif Nat.ble pc 62 then
       (bif Nat.beq pc 62 then cf_aload 0 63 else cf_stuck)
       else
       (bif Nat.beq pc 63 then cf_iload 1 64 else cf_stuck))))
    else
    (bif Nat.ble pc 69 then
     (bif Nat.ble pc 67 then
      (bif Nat.ble pc 64 then
       (bif Nat.beq pc 64 then cf_put 5 22 67 else cf_stuck)
       else
       (bif Nat.beq pc 67 then cf_const 2 68 else cf_stuck))
      else
      (bif Nat.ble pc 68 then
       (bif Nat.beq pc 68 then cf_istore 2 69 else cf_stuck)
       else
       (bif Nat.beq pc 69 then cf_aload 0 70 else cf_stuck)))
     else
     (bif Nat.ble pc 73 then
      (bif Nat.ble pc 70 then
       (bif Nat.beq pc 70 then cf_get 5 22 73 else cf_stuck)
       else
       (bif Nat.beq pc 73 then cf_call 1 F_P_bits 76 else cf_stuck))
      else
      (bif Nat.ble pc 76 then
       (bif Nat.beq pc 76 then cf_const 1 77 else cf_stuck)
       else
       (bif Nat.ble pc 77 then
        (bif Nat.beq pc 77 then cf_icle 213 80 else cf_stuck)
        else
        (bif Nat.beq pc 80 then cf_aload 0 81 else cf_stuck))))))
   else
   (bif Nat.ble pc 92 then
    (bif Nat.ble pc 84 then
     (bif Nat.ble pc 82 then
      (bif Nat.ble pc 81 then
       (bif Nat.beq pc 81 then cf_iload 2 82 else cf_stuck)
       else
       (bif Nat.beq pc 82 then cf_const 0 83 else cf_stuck))
      else
      (bif Nat.ble pc 83 then
       (bif Nat.beq pc 83 then cf_iload 1 84 else cf_stuck)
       else
       (bif Nat.beq pc 84 then cf_call 4 F_P_failing 87 else cf_stuck)))
     else
     (bif Nat.ble pc 88 then
      (bif Nat.ble pc 87 then
       (bif Nat.beq pc 87 then cf_istore 3 88 else cf_stuck)
       else
       (bif Nat.beq pc 88 then cf_iload 3 89 else cf_stuck))
      else
      (bif Nat.ble pc 89 then
       (bif Nat.beq pc 89 then cf_ifge 93 92 else cf_stuck)
       else
       (bif Nat.beq pc 92 then cf_vret else cf_stuck))))
    else
    (bif Nat.ble pc 98 then
     (bif Nat.ble pc 94 then
      (bif Nat.ble pc 93 then
       (bif Nat.beq pc 93 then cf_iload 3 94 else cf_stuck)
       else
       (bif Nat.beq pc 94 then cf_iload 2 95 else cf_stuck))
      else
      (bif Nat.ble pc 95 then
       (bif Nat.beq pc 95 then cf_icge 116 98 else cf_stuck)
       else
       (bif Nat.beq pc 98 then cf_aload 0 99 else cf_stuck)))
     else
     (bif Nat.ble pc 100 then
      (bif Nat.ble pc 99 then
       (bif Nat.beq pc 99 then cf_aload 0 100 else cf_stuck)
       else
       (bif Nat.beq pc 100 then cf_get 5 22 103 else cf_stuck))
      else
      (bif Nat.ble pc 103 then
       (bif Nat.beq pc 103 then cf_iload 3 104 else cf_stuck)
       else
       (bif Nat.ble pc 104 then
        (bif Nat.beq pc 104 then cf_iload 2 105 else cf_stuck)
        else
        (bif Nat.beq pc 105 then cf_call 3 F_P_piece 108 else cf_stuck))))))))
 else
 (bif Nat.ble pc 158 then
  (bif Nat.ble pc 131 then
   (bif Nat.ble pc 119 then
    (bif Nat.ble pc 113 then
     (bif Nat.ble pc 111 then
      (bif Nat.ble pc 108 then
       (bif Nat.beq pc 108 then cf_put 5 22 111 else cf_stuck)
       else
       (bif Nat.beq pc 111 then cf_const 2 112 else cf_stuck))
      else
      (bif Nat.ble pc 112 then
       (bif Nat.beq pc 112 then cf_istore 2 113 else cf_stuck)
       else
       (bif Nat.beq pc 113 then cf_goto 210 else cf_stuck)))
     else
     (bif Nat.ble pc 117 then
      (bif Nat.ble pc 116 then
       (bif Nat.beq pc 116 then cf_aload 0 117 else cf_stuck)
       else
       (bif Nat.beq pc 117 then cf_iload 2 118 else cf_stuck))
      else
      (bif Nat.ble pc 118 then
       (bif Nat.beq pc 118 then cf_const 1 119 else cf_stuck)
       else
       (bif Nat.beq pc 119 then cf_iload 1 120 else cf_stuck))))
    else
    (bif Nat.ble pc 125 then
     (bif Nat.ble pc 123 then
      (bif Nat.ble pc 120 then
       (bif Nat.beq pc 120 then cf_call 4 F_P_failing 123 else cf_stuck)
       else
       (bif Nat.beq pc 123 then cf_istore 3 124 else cf_stuck))
      else
      (bif Nat.ble pc 124 then
       (bif Nat.beq pc 124 then cf_iload 3 125 else cf_stuck)
       else
       (bif Nat.beq pc 125 then cf_ifge 129 128 else cf_stuck)))
     else
     (bif Nat.ble pc 129 then
      (bif Nat.ble pc 128 then
       (bif Nat.beq pc 128 then cf_vret else cf_stuck)
       else
       (bif Nat.beq pc 129 then cf_iload 3 130 else cf_stuck))
      else
      (bif Nat.ble pc 130 then
       (bif Nat.beq pc 130 then cf_iload 2 131 else cf_stuck)
       else
       (bif Nat.beq pc 131 then cf_icge 172 134 else cf_stuck)))))
   else
   (bif Nat.ble pc 145 then
    (bif Nat.ble pc 139 then
     (bif Nat.ble pc 135 then
      (bif Nat.ble pc 134 then
       (bif Nat.beq pc 134 then cf_aload 0 135 else cf_stuck)
       else
       (bif Nat.beq pc 135 then cf_aload 0 136 else cf_stuck))
      else
      (bif Nat.ble pc 136 then
       (bif Nat.beq pc 136 then cf_get 5 22 139 else cf_stuck)
       else
       (bif Nat.beq pc 139 then cf_aload 0 140 else cf_stuck)))
     else
     (bif Nat.ble pc 143 then
      (bif Nat.ble pc 140 then
       (bif Nat.beq pc 140 then cf_get 5 22 143 else cf_stuck)
       else
       (bif Nat.beq pc 143 then cf_iload 3 144 else cf_stuck))
      else
      (bif Nat.ble pc 144 then
       (bif Nat.beq pc 144 then cf_iload 2 145 else cf_stuck)
       else
       (bif Nat.beq pc 145 then cf_call 3 F_P_piece 148 else cf_stuck))))
    else
    (bif Nat.ble pc 151 then
     (bif Nat.ble pc 149 then
      (bif Nat.ble pc 148 then
       (bif Nat.beq pc 148 then cf_const (-1) 149 else cf_stuck)
       else
       (bif Nat.beq pc 149 then cf_bin (fun x y => x ^^^ y) 150 else cf_stuck))
      else
      (bif Nat.ble pc 150 then
       (bif Nat.beq pc 150 then cf_bin (fun x y => x &&& y) 151 else cf_stuck)
       else
       (bif Nat.beq pc 151 then cf_put 5 22 154 else cf_stuck)))
     else
     (bif Nat.ble pc 155 then
      (bif Nat.ble pc 154 then
       (bif Nat.beq pc 154 then cf_iload 2 155 else cf_stuck)
       else
       (bif Nat.beq pc 155 then cf_const 1 156 else cf_stuck))
      else
      (bif Nat.ble pc 156 then
       (bif Nat.beq pc 156 then cf_bin (fun x y => x - y) 157 else cf_stuck)
       else
       (bif Nat.ble pc 157 then
        (bif Nat.beq pc 157 then cf_const 2 158 else cf_stuck)
        else
        (bif Nat.beq pc 158 then cf_icle 167 161 else cf_stuck)))))))
  else
  (bif Nat.ble pc 189 then
   (bif Nat.ble pc 172 then
    (bif Nat.ble pc 164 then
     (bif Nat.ble pc 162 then
      (bif Nat.ble pc 161 then
       (bif Nat.beq pc 161 then cf_iload 2 162 else cf_stuck)
       else
       (bif Nat.beq pc 162 then cf_const 1 163 else cf_stuck))
      else
      (bif Nat.ble pc 163 then
       (bif Nat.beq pc 163 then cf_bin (fun x y => x - y) 164 else cf_stuck)
       else
       (bif Nat.beq pc 164 then cf_goto 168 else cf_stuck)))
     else
     (bif Nat.ble pc 168 then
      (bif Nat.ble pc 167 then
       (bif Nat.beq pc 167 then cf_const 2 168 else cf_stuck)
       else
       (bif Nat.beq pc 168 then cf_istore 2 169 else cf_stuck))
      else
      (bif Nat.ble pc 169 then
       (bif Nat.beq pc 169 then cf_goto 210 else cf_stuck)
       else
       (bif Nat.beq pc 172 then cf_aload 0 173 else cf_stuck))))
    else
    (bif Nat.ble pc 181 then
     (bif Nat.ble pc 176 then
      (bif Nat.ble pc 173 then
       (bif Nat.beq pc 173 then cf_get 5 22 176 else cf_stuck)
       else
       (bif Nat.beq pc 176 then cf_call 1 F_P_bits 179 else cf_stuck))
      else
      (bif Nat.ble pc 179 then
       (bif Nat.beq pc 179 then cf_istore 4 181 else cf_stuck)
       else
       (bif Nat.beq pc 181 then cf_iload 2 182 else cf_stuck)))
     else
     (bif Nat.ble pc 184 then
      (bif Nat.ble pc 182 then
       (bif Nat.beq pc 182 then cf_iload 4 184 else cf_stuck)
       else
       (bif Nat.beq pc 184 then cf_iclt 193 187 else cf_stuck))
      else
      (bif Nat.ble pc 187 then
       (bif Nat.beq pc 187 then cf_aload 0 188 else cf_stuck)
       else
       (bif Nat.ble pc 188 then
        (bif Nat.beq pc 188 then cf_const 4 189 else cf_stuck)
        else
        (bif Nat.beq pc 189 then cf_put 5 18 192 else cf_stuck))))))
   else
   (bif Nat.ble pc 202 then
    (bif Nat.ble pc 195 then
     (bif Nat.ble pc 193 then
      (bif Nat.ble pc 192 then
       (bif Nat.beq pc 192 then cf_vret else cf_stuck)
       else
       (bif Nat.beq pc 193 then cf_const 2 194 else cf_stuck))
      else
      (bif Nat.ble pc 194 then
       (bif Nat.beq pc 194 then cf_iload 2 195 else cf_stuck)
       else
       (bif Nat.beq pc 195 then cf_bin (fun x y => x * y) 196 else cf_stuck)))
     else
     (bif Nat.ble pc 198 then
      (bif Nat.ble pc 196 then
       (bif Nat.beq pc 196 then cf_iload 4 198 else cf_stuck)
       else
       (bif Nat.beq pc 198 then cf_icge 207 201 else cf_stuck))
      else
      (bif Nat.ble pc 201 then
       (bif Nat.beq pc 201 then cf_const 2 202 else cf_stuck)
       else
       (bif Nat.beq pc 202 then cf_iload 2 203 else cf_stuck))))
    else
    (bif Nat.ble pc 209 then
     (bif Nat.ble pc 204 then
      (bif Nat.ble pc 203 then
       (bif Nat.beq pc 203 then cf_bin (fun x y => x * y) 204 else cf_stuck)
       else
       (bif Nat.beq pc 204 then cf_goto 209 else cf_stuck))
      else
      (bif Nat.ble pc 207 then
       (bif Nat.beq pc 207 then cf_iload 4 209 else cf_stuck)
       else
       (bif Nat.beq pc 209 then cf_istore 2 210 else cf_stuck)))
     else
     (bif Nat.ble pc 213 then
      (bif Nat.ble pc 210 then
       (bif Nat.beq pc 210 then cf_goto 69 else cf_stuck)
       else
       (bif Nat.beq pc 213 then cf_aload 0 214 else cf_stuck))
      else
      (bif Nat.ble pc 214 then
       (bif Nat.beq pc 214 then cf_const 4 215 else cf_stuck)
       else
       (bif Nat.ble pc 215 then
        (bif Nat.beq pc 215 then cf_put 5 18 218 else cf_stuck)
        else
        (bif Nat.beq pc 218 then cf_vret else cf_stuck))))))))
noncomputable def F_P_reduce : List cf_AV → cf_Wd → Option cf_Rs := cf_F T_P_reduce 5 none (cf_shV 15 0)
theorem r_P_reduce_0 {l0 l1 l2 l3 l4 : Option cf_AV} {st : List cf_AV} {w : cf_Wd} {Q : cf_Rs → Prop} : cf_wp T_P_reduce (0, [l0, l1, l2, l3, l4], st, w) Q ↔ cf_wp T_P_reduce (1, [l0, l1, l2, l3, l4], .inl 0 :: st, w) Q := cf_w1 rfl
theorem r_P_reduce_1 {l0 l1 l2 l3 l4 : Option cf_AV} {x : Int32} {st : List cf_AV} {w : cf_Wd} {Q : cf_Rs → Prop} : cf_wp T_P_reduce (1, [l0, l1, l2, l3, l4], .inl x :: st, w) Q ↔ cf_wp T_P_reduce (2, [l0, some (.inl x), l2, l3, l4], st, w) Q := cf_w1 rfl
theorem r_P_reduce_2 {l0 l1 l2 l3 l4 : Option cf_AV} {st : List cf_AV} {w : cf_Wd} {Q : cf_Rs → Prop} : cf_wp T_P_reduce (2, [l0, l1, l2, l3, l4], st, w) Q ↔ cf_wp T_P_reduce (3, [l0, l1, l2, l3, l4], .inl 0 :: st, w) Q := cf_w1 rfl
theorem r_P_reduce_3 {l0 l1 l2 l3 l4 : Option cf_AV} {x : Int32} {st : List cf_AV} {w : cf_Wd} {Q : cf_Rs → Prop} : cf_wp T_P_reduce (3, [l0, l1, l2, l3, l4], .inl x :: st, w) Q ↔ cf_wp T_P_reduce (4, [l0, l1, some (.inl x), l3, l4], st, w) Q := cf_w1 rfl
theorem r_P_reduce_4 {l0 l1 l3 l4 : Option cf_AV} {x : Int32} {st : List cf_AV} {w : cf_Wd} {Q : cf_Rs → Prop} : cf_wp T_P_reduce (4, [l0, l1, some (.inl x), l3, l4], st, w) Q ↔ cf_wp T_P_reduce (5, [l0, l1, some (.inl x), l3, l4], .inl x :: st, w) Q := cf_w1 rfl
theorem r_P_reduce_5 {l0 l1 l2 l3 l4 : Option cf_AV} {st : List cf_AV} {w : cf_Wd} {Q : cf_Rs → Prop} : cf_wp T_P_reduce (5, [l0, l1, l2, l3, l4], st, w) Q ↔ cf_wp T_P_reduce (7, [l0, l1, l2, l3, l4], .inl 8 :: st, w) Q := cf_w1 rfl
theorem r_P_reduce_7 {l0 l1 l2 l3 l4 : Option cf_AV} {x y : Int32} {st : List cf_AV} {w : cf_Wd} {Q : cf_Rs → Prop} : cf_wp T_P_reduce (7, [l0, l1, l2, l3, l4], .inl y :: .inl x :: st, w) Q ↔ (if y ≤ x then cf_wp T_P_reduce (62, [l0, l1, l2, l3, l4], st, w) Q else cf_wp T_P_reduce (10, [l0, l1, l2, l3, l4], st, w) Q) := cf_wi rfl
theorem r_P_reduce_10 {l1 l2 l3 l4 : Option cf_AV} {k : Nat} {st : List cf_AV} {w : cf_Wd} {Q : cf_Rs → Prop} : cf_wp T_P_reduce (10, [some (.inr k), l1, l2, l3, l4], st, w) Q ↔ cf_wp T_P_reduce (11, [some (.inr k), l1, l2, l3, l4], .inr k :: st, w) Q := cf_w1 rfl
theorem r_P_reduce_11 {l0 l1 l2 l3 l4 : Option cf_AV} {st : List cf_AV} {w : cf_Wd} {Q : cf_Rs → Prop} : cf_wp T_P_reduce (11, [l0, l1, l2, l3, l4], .inr 15 :: st, w) Q ↔ cf_wp T_P_reduce (14, [l0, l1, l2, l3, l4], .inr 18 :: st, w) Q := cf_w1 rfl
theorem r_P_reduce_14 {l0 l1 l2 l3 l4 : Option cf_AV} {st : List cf_AV} {w : cf_Wd} {Q : cf_Rs → Prop} : cf_wp T_P_reduce (14, [l0, l1, l2, l3, l4], st, w) Q ↔ cf_wp T_P_reduce (16, [l0, l1, l2, l3, l4], .inl 8 :: st, w) Q := cf_w1 rfl
theorem r_P_reduce_16 {l1 l2 l3 l4 : Option cf_AV} {k : Nat} {st : List cf_AV} {w : cf_Wd} {Q : cf_Rs → Prop} : cf_wp T_P_reduce (16, [some (.inr k), l1, l2, l3, l4], st, w) Q ↔ cf_wp T_P_reduce (17, [some (.inr k), l1, l2, l3, l4], .inr k :: st, w) Q := cf_w1 rfl
theorem r_P_reduce_17 {l0 l1 l2 l3 l4 : Option cf_AV} {st : List cf_AV} {w : cf_Wd} {Q : cf_Rs → Prop} : cf_wp T_P_reduce (17, [l0, l1, l2, l3, l4], .inr 15 :: st, w) Q ↔ cf_wp T_P_reduce (20, [l0, l1, l2, l3, l4], .inl (w 15 21) :: st, w) Q := cf_w1 rfl
theorem r_P_reduce_20 {l0 l1 l2 l3 l4 : Option cf_AV} {x y : Int32} {st : List cf_AV} {w : cf_Wd} {Q : cf_Rs → Prop} : cf_wp T_P_reduce (20, [l0, l1, l2, l3, l4], .inl y :: .inl x :: st, w) Q ↔ cf_wp T_P_reduce (21, [l0, l1, l2, l3, l4], .inl (x * y) :: st, w) Q := cf_w1 rfl
theorem r_P_reduce_21 {l0 l1 l3 l4 : Option cf_AV} {x : Int32} {st : List cf_AV} {w : cf_Wd} {Q : cf_Rs → Prop} : cf_wp T_P_reduce (21, [l0, l1, some (.inl x), l3, l4], st, w) Q ↔ cf_wp T_P_reduce (22, [l0, l1, some (.inl x), l3, l4], .inl x :: st, w) Q := cf_w1 rfl
theorem r_P_reduce_22 {l0 l1 l2 l3 l4 : Option cf_AV} {x y : Int32} {st : List cf_AV} {w : cf_Wd} {Q : cf_Rs → Prop} : cf_wp T_P_reduce (22, [l0, l1, l2, l3, l4], .inl y :: .inl x :: st, w) Q ↔ cf_wp T_P_reduce (23, [l0, l1, l2, l3, l4], .inl (x + y) :: st, w) Q := cf_w1 rfl
theorem r_P_reduce_23 {l0 l1 l2 l3 l4 : Option cf_AV} {i : Int32} {st : List cf_AV} {w : cf_Wd} {Q : cf_Rs → Prop} : cf_wp T_P_reduce (23, [l0, l1, l2, l3, l4], .inl i :: .inr 18 :: st, w) Q ↔ (cf_in i 112 = true ∧ cf_wp T_P_reduce (24, [l0, l1, l2, l3, l4], .inl (w 18 i.toNatClampNeg) :: st, w) Q) := cf_wg rfl
theorem r_P_reduce_24 {l1 l2 l3 l4 : Option cf_AV} {k : Nat} {st : List cf_AV} {w : cf_Wd} {Q : cf_Rs → Prop} : cf_wp T_P_reduce (24, [some (.inr k), l1, l2, l3, l4], st, w) Q ↔ cf_wp T_P_reduce (25, [some (.inr k), l1, l2, l3, l4], .inr k :: st, w) Q := cf_w1 rfl
theorem r_P_reduce_25 {l0 l1 l2 l3 l4 : Option cf_AV} {st : List cf_AV} {w : cf_Wd} {Q : cf_Rs → Prop} : cf_wp T_P_reduce (25, [l0, l1, l2, l3, l4], .inr 15 :: st, w) Q ↔ cf_wp T_P_reduce (28, [l0, l1, l2, l3, l4], .inr 18 :: st, w) Q := cf_w1 rfl
theorem r_P_reduce_28 {l0 l1 l2 l3 l4 : Option cf_AV} {st : List cf_AV} {w : cf_Wd} {Q : cf_Rs → Prop} : cf_wp T_P_reduce (28, [l0, l1, l2, l3, l4], st, w) Q ↔ cf_wp T_P_reduce (30, [l0, l1, l2, l3, l4], .inl 8 :: st, w) Q := cf_w1 rfl
theorem r_P_reduce_30 {l1 l2 l3 l4 : Option cf_AV} {k : Nat} {st : List cf_AV} {w : cf_Wd} {Q : cf_Rs → Prop} : cf_wp T_P_reduce (30, [some (.inr k), l1, l2, l3, l4], st, w) Q ↔ cf_wp T_P_reduce (31, [some (.inr k), l1, l2, l3, l4], .inr k :: st, w) Q := cf_w1 rfl
theorem r_P_reduce_31 {l0 l1 l2 l3 l4 : Option cf_AV} {st : List cf_AV} {w : cf_Wd} {Q : cf_Rs → Prop} : cf_wp T_P_reduce (31, [l0, l1, l2, l3, l4], .inr 15 :: st, w) Q ↔ cf_wp T_P_reduce (34, [l0, l1, l2, l3, l4], .inr 16 :: st, w) Q := cf_w1 rfl
theorem r_P_reduce_34 {l1 l2 l3 l4 : Option cf_AV} {k : Nat} {st : List cf_AV} {w : cf_Wd} {Q : cf_Rs → Prop} : cf_wp T_P_reduce (34, [some (.inr k), l1, l2, l3, l4], st, w) Q ↔ cf_wp T_P_reduce (35, [some (.inr k), l1, l2, l3, l4], .inr k :: st, w) Q := cf_w1 rfl
theorem r_P_reduce_35 {l0 l1 l2 l3 l4 : Option cf_AV} {st : List cf_AV} {w : cf_Wd} {Q : cf_Rs → Prop} : cf_wp T_P_reduce (35, [l0, l1, l2, l3, l4], .inr 15 :: st, w) Q ↔ cf_wp T_P_reduce (38, [l0, l1, l2, l3, l4], .inl (w 15 21) :: st, w) Q := cf_w1 rfl
theorem r_P_reduce_38 {l0 l1 l2 l3 l4 : Option cf_AV} {i : Int32} {st : List cf_AV} {w : cf_Wd} {Q : cf_Rs → Prop} : cf_wp T_P_reduce (38, [l0, l1, l2, l3, l4], .inl i :: .inr 16 :: st, w) Q ↔ (cf_in i 14 = true ∧ cf_wp T_P_reduce (39, [l0, l1, l2, l3, l4], .inl (w 16 i.toNatClampNeg) :: st, w) Q) := cf_wg rfl
theorem r_P_reduce_39 {l0 l1 l2 l3 l4 : Option cf_AV} {x y : Int32} {st : List cf_AV} {w : cf_Wd} {Q : cf_Rs → Prop} : cf_wp T_P_reduce (39, [l0, l1, l2, l3, l4], .inl y :: .inl x :: st, w) Q ↔ cf_wp T_P_reduce (40, [l0, l1, l2, l3, l4], .inl (x * y) :: st, w) Q := cf_w1 rfl
theorem r_P_reduce_40 {l0 l1 l3 l4 : Option cf_AV} {x : Int32} {st : List cf_AV} {w : cf_Wd} {Q : cf_Rs → Prop} : cf_wp T_P_reduce (40, [l0, l1, some (.inl x), l3, l4], st, w) Q ↔ cf_wp T_P_reduce (41, [l0, l1, some (.inl x), l3, l4], .inl x :: st, w) Q := cf_w1 rfl
theorem r_P_reduce_41 {l0 l1 l2 l3 l4 : Option cf_AV} {x y : Int32} {st : List cf_AV} {w : cf_Wd} {Q : cf_Rs → Prop} : cf_wp T_P_reduce (41, [l0, l1, l2, l3, l4], .inl y :: .inl x :: st, w) Q ↔ cf_wp T_P_reduce (42, [l0, l1, l2, l3, l4], .inl (x + y) :: st, w) Q := cf_w1 rfl
theorem r_P_reduce_42 {l0 l1 l2 l3 l4 : Option cf_AV} {i : Int32} {st : List cf_AV} {w : cf_Wd} {Q : cf_Rs → Prop} : cf_wp T_P_reduce (42, [l0, l1, l2, l3, l4], .inl i :: .inr 18 :: st, w) Q ↔ (cf_in i 112 = true ∧ cf_wp T_P_reduce (43, [l0, l1, l2, l3, l4], .inl (w 18 i.toNatClampNeg) :: st, w) Q) := cf_wg rfl
theorem r_P_reduce_43 {l0 l1 l2 l3 l4 : Option cf_AV} {x y : Int32} {st : List cf_AV} {w : cf_Wd} {Q : cf_Rs → Prop} : cf_wp T_P_reduce (43, [l0, l1, l2, l3, l4], .inl y :: .inl x :: st, w) Q ↔ (if x = y then cf_wp T_P_reduce (54, [l0, l1, l2, l3, l4], st, w) Q else cf_wp T_P_reduce (46, [l0, l1, l2, l3, l4], st, w) Q) := cf_wi rfl
theorem r_P_reduce_46 {l0 l2 l3 l4 : Option cf_AV} {x : Int32} {st : List cf_AV} {w : cf_Wd} {Q : cf_Rs → Prop} : cf_wp T_P_reduce (46, [l0, some (.inl x), l2, l3, l4], st, w) Q ↔ cf_wp T_P_reduce (47, [l0, some (.inl x), l2, l3, l4], .inl x :: st, w) Q := cf_w1 rfl
theorem r_P_reduce_47 {l0 l1 l2 l3 l4 : Option cf_AV} {st : List cf_AV} {w : cf_Wd} {Q : cf_Rs → Prop} : cf_wp T_P_reduce (47, [l0, l1, l2, l3, l4], st, w) Q ↔ cf_wp T_P_reduce (48, [l0, l1, l2, l3, l4], .inl 1 :: st, w) Q := cf_w1 rfl
theorem r_P_reduce_48 {l0 l1 l3 l4 : Option cf_AV} {x : Int32} {st : List cf_AV} {w : cf_Wd} {Q : cf_Rs → Prop} : cf_wp T_P_reduce (48, [l0, l1, some (.inl x), l3, l4], st, w) Q ↔ cf_wp T_P_reduce (49, [l0, l1, some (.inl x), l3, l4], .inl x :: st, w) Q := cf_w1 rfl
theorem r_P_reduce_49 {l0 l1 l2 l3 l4 : Option cf_AV} {x y : Int32} {st : List cf_AV} {w : cf_Wd} {Q : cf_Rs → Prop} : cf_wp T_P_reduce (49, [l0, l1, l2, l3, l4], .inl y :: .inl x :: st, w) Q ↔ cf_wp T_P_reduce (50, [l0, l1, l2, l3, l4], .inl (x <<< (y &&& 31)) :: st, w) Q := cf_w1 rfl
theorem r_P_reduce_50 {l0 l1 l2 l3 l4 : Option cf_AV} {x y : Int32} {st : List cf_AV} {w : cf_Wd} {Q : cf_Rs → Prop} : cf_wp T_P_reduce (50, [l0, l1, l2, l3, l4], .inl y :: .inl x :: st, w) Q ↔ cf_wp T_P_reduce (51, [l0, l1, l2, l3, l4], .inl (x ||| y) :: st, w) Q := cf_w1 rfl
theorem r_P_reduce_51 {l0 l1 l2 l3 l4 : Option cf_AV} {st : List cf_AV} {w : cf_Wd} {Q : cf_Rs → Prop} : cf_wp T_P_reduce (51, [l0, l1, l2, l3, l4], st, w) Q ↔ cf_wp T_P_reduce (55, [l0, l1, l2, l3, l4], st, w) Q := cf_w1 rfl
theorem r_P_reduce_54 {l0 l2 l3 l4 : Option cf_AV} {x : Int32} {st : List cf_AV} {w : cf_Wd} {Q : cf_Rs → Prop} : cf_wp T_P_reduce (54, [l0, some (.inl x), l2, l3, l4], st, w) Q ↔ cf_wp T_P_reduce (55, [l0, some (.inl x), l2, l3, l4], .inl x :: st, w) Q := cf_w1 rfl
theorem r_P_reduce_55 {l0 l1 l2 l3 l4 : Option cf_AV} {x : Int32} {st : List cf_AV} {w : cf_Wd} {Q : cf_Rs → Prop} : cf_wp T_P_reduce (55, [l0, l1, l2, l3, l4], .inl x :: st, w) Q ↔ cf_wp T_P_reduce (56, [l0, some (.inl x), l2, l3, l4], st, w) Q := cf_w1 rfl
theorem r_P_reduce_56 {l0 l1 l3 l4 : Option cf_AV} {x : Int32} {st : List cf_AV} {w : cf_Wd} {Q : cf_Rs → Prop} : cf_wp T_P_reduce (56, [l0, l1, some (.inl x), l3, l4], st, w) Q ↔ cf_wp T_P_reduce (59, [l0, l1, some (.inl (x + 1)), l3, l4], st, w) Q := cf_w1 rfl
theorem r_P_reduce_59 {l0 l1 l2 l3 l4 : Option cf_AV} {st : List cf_AV} {w : cf_Wd} {Q : cf_Rs → Prop} : cf_wp T_P_reduce (59, [l0, l1, l2, l3, l4], st, w) Q ↔ cf_wp T_P_reduce (4, [l0, l1, l2, l3, l4], st, w) Q := cf_w1 rfl
theorem r_P_reduce_62 {l1 l2 l3 l4 : Option cf_AV} {k : Nat} {st : List cf_AV} {w : cf_Wd} {Q : cf_Rs → Prop} : cf_wp T_P_reduce (62, [some (.inr k), l1, l2, l3, l4], st, w) Q ↔ cf_wp T_P_reduce (63, [some (.inr k), l1, l2, l3, l4], .inr k :: st, w) Q := cf_w1 rfl
theorem r_P_reduce_63 {l0 l2 l3 l4 : Option cf_AV} {x : Int32} {st : List cf_AV} {w : cf_Wd} {Q : cf_Rs → Prop} : cf_wp T_P_reduce (63, [l0, some (.inl x), l2, l3, l4], st, w) Q ↔ cf_wp T_P_reduce (64, [l0, some (.inl x), l2, l3, l4], .inl x :: st, w) Q := cf_w1 rfl
theorem r_P_reduce_64 {l0 l1 l2 l3 l4 : Option cf_AV} {x : Int32} {st : List cf_AV} {w : cf_Wd} {Q : cf_Rs → Prop} : cf_wp T_P_reduce (64, [l0, l1, l2, l3, l4], .inl x :: .inr 15 :: st, w) Q ↔ cf_wp T_P_reduce (67, [l0, l1, l2, l3, l4], st, (cf_wa w 15 (upd (w 15) 22 x))) Q := cf_w1 rfl
theorem r_P_reduce_67 {l0 l1 l2 l3 l4 : Option cf_AV} {st : List cf_AV} {w : cf_Wd} {Q : cf_Rs → Prop} : cf_wp T_P_reduce (67, [l0, l1, l2, l3, l4], st, w) Q ↔ cf_wp T_P_reduce (68, [l0, l1, l2, l3, l4], .inl 2 :: st, w) Q := cf_w1 rfl
theorem r_P_reduce_68 {l0 l1 l2 l3 l4 : Option cf_AV} {x : Int32} {st : List cf_AV} {w : cf_Wd} {Q : cf_Rs → Prop} : cf_wp T_P_reduce (68, [l0, l1, l2, l3, l4], .inl x :: st, w) Q ↔ cf_wp T_P_reduce (69, [l0, l1, some (.inl x), l3, l4], st, w) Q := cf_w1 rfl
theorem r_P_reduce_69 {l1 l2 l3 l4 : Option cf_AV} {k : Nat} {st : List cf_AV} {w : cf_Wd} {Q : cf_Rs → Prop} : cf_wp T_P_reduce (69, [some (.inr k), l1, l2, l3, l4], st, w) Q ↔ cf_wp T_P_reduce (70, [some (.inr k), l1, l2, l3, l4], .inr k :: st, w) Q := cf_w1 rfl
theorem r_P_reduce_70 {l0 l1 l2 l3 l4 : Option cf_AV} {st : List cf_AV} {w : cf_Wd} {Q : cf_Rs → Prop} : cf_wp T_P_reduce (70, [l0, l1, l2, l3, l4], .inr 15 :: st, w) Q ↔ cf_wp T_P_reduce (73, [l0, l1, l2, l3, l4], .inl (w 15 22) :: st, w) Q := cf_w1 rfl
theorem r_P_reduce_73 {l0 l1 l2 l3 l4 : Option cf_AV} {a0 : Int32} {w : cf_Wd} {Q : cf_Rs → Prop} : cf_wp T_P_reduce (73, [l0, l1, l2, l3, l4], [.inl a0], w) Q ↔ ∃ x w1, F_P_bits [.inl a0] w = some (some (.inl x), w1) ∧ cf_wp T_P_reduce (76, [l0, l1, l2, l3, l4], [.inl x], w1) Q := cf_wci (n := 1) (F := F_P_bits) (nx := 76) rfl rfl cf_F_i
theorem c_P_reduce_73 {l0 l1 l2 l3 l4 : Option cf_AV} {a0 : Int32} {x1 : Int32} {w1 : cf_Wd} {w : cf_Wd} {Q : cf_Rs → Prop} (hs : F_P_bits [.inl a0] w = some (some (.inl x1), w1)) : cf_wp T_P_reduce (73, [l0, l1, l2, l3, l4], [.inl a0], w) Q ↔ cf_wp T_P_reduce (76, [l0, l1, l2, l3, l4], [.inl x1], w1) Q := r_P_reduce_73.trans (cf_xi hs)
theorem r_P_reduce_76 {l0 l1 l2 l3 l4 : Option cf_AV} {st : List cf_AV} {w : cf_Wd} {Q : cf_Rs → Prop} : cf_wp T_P_reduce (76, [l0, l1, l2, l3, l4], st, w) Q ↔ cf_wp T_P_reduce (77, [l0, l1, l2, l3, l4], .inl 1 :: st, w) Q := cf_w1 rfl
theorem r_P_reduce_77 {l0 l1 l2 l3 l4 : Option cf_AV} {x y : Int32} {st : List cf_AV} {w : cf_Wd} {Q : cf_Rs → Prop} : cf_wp T_P_reduce (77, [l0, l1, l2, l3, l4], .inl y :: .inl x :: st, w) Q ↔ (if x ≤ y then cf_wp T_P_reduce (213, [l0, l1, l2, l3, l4], st, w) Q else cf_wp T_P_reduce (80, [l0, l1, l2, l3, l4], st, w) Q) := cf_wi rfl
theorem r_P_reduce_80 {l1 l2 l3 l4 : Option cf_AV} {k : Nat} {st : List cf_AV} {w : cf_Wd} {Q : cf_Rs → Prop} : cf_wp T_P_reduce (80, [some (.inr k), l1, l2, l3, l4], st, w) Q ↔ cf_wp T_P_reduce (81, [some (.inr k), l1, l2, l3, l4], .inr k :: st, w) Q := cf_w1 rfl
theorem r_P_reduce_81 {l0 l1 l3 l4 : Option cf_AV} {x : Int32} {st : List cf_AV} {w : cf_Wd} {Q : cf_Rs → Prop} : cf_wp T_P_reduce (81, [l0, l1, some (.inl x), l3, l4], st, w) Q ↔ cf_wp T_P_reduce (82, [l0, l1, some (.inl x), l3, l4], .inl x :: st, w) Q := cf_w1 rfl
theorem r_P_reduce_82 {l0 l1 l2 l3 l4 : Option cf_AV} {st : List cf_AV} {w : cf_Wd} {Q : cf_Rs → Prop} : cf_wp T_P_reduce (82, [l0, l1, l2, l3, l4], st, w) Q ↔ cf_wp T_P_reduce (83, [l0, l1, l2, l3, l4], .inl 0 :: st, w) Q := cf_w1 rfl
theorem r_P_reduce_83 {l0 l2 l3 l4 : Option cf_AV} {x : Int32} {st : List cf_AV} {w : cf_Wd} {Q : cf_Rs → Prop} : cf_wp T_P_reduce (83, [l0, some (.inl x), l2, l3, l4], st, w) Q ↔ cf_wp T_P_reduce (84, [l0, some (.inl x), l2, l3, l4], .inl x :: st, w) Q := cf_w1 rfl
theorem r_P_reduce_84 {l0 l1 l2 l3 l4 : Option cf_AV} {a3 a2 a1 : Int32} {w : cf_Wd} {Q : cf_Rs → Prop} : cf_wp T_P_reduce (84, [l0, l1, l2, l3, l4], [.inl a3, .inl a2, .inl a1, .inr 15], w) Q ↔ ∃ x w1, F_P_failing [.inr 15, .inl a1, .inl a2, .inl a3] w = some (some (.inl x), w1) ∧ cf_wp T_P_reduce (87, [l0, l1, l2, l3, l4], [.inl x], w1) Q := cf_wci (n := 4) (F := F_P_failing) (nx := 87) rfl rfl cf_F_i
theorem c_P_reduce_84 {l0 l1 l2 l3 l4 : Option cf_AV} {a3 a2 a1 : Int32} {x1 : Int32} {w1 : cf_Wd} {w : cf_Wd} {Q : cf_Rs → Prop} (hs : F_P_failing [.inr 15, .inl a1, .inl a2, .inl a3] w = some (some (.inl x1), w1)) : cf_wp T_P_reduce (84, [l0, l1, l2, l3, l4], [.inl a3, .inl a2, .inl a1, .inr 15], w) Q ↔ cf_wp T_P_reduce (87, [l0, l1, l2, l3, l4], [.inl x1], w1) Q := r_P_reduce_84.trans (cf_xi hs)
theorem r_P_reduce_87 {l0 l1 l2 l3 l4 : Option cf_AV} {x : Int32} {st : List cf_AV} {w : cf_Wd} {Q : cf_Rs → Prop} : cf_wp T_P_reduce (87, [l0, l1, l2, l3, l4], .inl x :: st, w) Q ↔ cf_wp T_P_reduce (88, [l0, l1, l2, some (.inl x), l4], st, w) Q := cf_w1 rfl
theorem r_P_reduce_88 {l0 l1 l2 l4 : Option cf_AV} {x : Int32} {st : List cf_AV} {w : cf_Wd} {Q : cf_Rs → Prop} : cf_wp T_P_reduce (88, [l0, l1, l2, some (.inl x), l4], st, w) Q ↔ cf_wp T_P_reduce (89, [l0, l1, l2, some (.inl x), l4], .inl x :: st, w) Q := cf_w1 rfl
theorem r_P_reduce_89 {l0 l1 l2 l3 l4 : Option cf_AV} {x : Int32} {st : List cf_AV} {w : cf_Wd} {Q : cf_Rs → Prop} : cf_wp T_P_reduce (89, [l0, l1, l2, l3, l4], .inl x :: st, w) Q ↔ (if 0 ≤ x then cf_wp T_P_reduce (93, [l0, l1, l2, l3, l4], st, w) Q else cf_wp T_P_reduce (92, [l0, l1, l2, l3, l4], st, w) Q) := cf_wi rfl
theorem r_P_reduce_92 {l0 l1 l2 l3 l4 : Option cf_AV} {w : cf_Wd} {P : cf_Wd → Prop} : cf_wp T_P_reduce (92, [l0, l1, l2, l3, l4], [], w) (cf_qv P) ↔ P w := Iff.trans (cf_wr (q := (none, w)) rfl) Iff.rfl
theorem r_P_reduce_93 {l0 l1 l2 l4 : Option cf_AV} {x : Int32} {st : List cf_AV} {w : cf_Wd} {Q : cf_Rs → Prop} : cf_wp T_P_reduce (93, [l0, l1, l2, some (.inl x), l4], st, w) Q ↔ cf_wp T_P_reduce (94, [l0, l1, l2, some (.inl x), l4], .inl x :: st, w) Q := cf_w1 rfl
theorem r_P_reduce_94 {l0 l1 l3 l4 : Option cf_AV} {x : Int32} {st : List cf_AV} {w : cf_Wd} {Q : cf_Rs → Prop} : cf_wp T_P_reduce (94, [l0, l1, some (.inl x), l3, l4], st, w) Q ↔ cf_wp T_P_reduce (95, [l0, l1, some (.inl x), l3, l4], .inl x :: st, w) Q := cf_w1 rfl
theorem r_P_reduce_95 {l0 l1 l2 l3 l4 : Option cf_AV} {x y : Int32} {st : List cf_AV} {w : cf_Wd} {Q : cf_Rs → Prop} : cf_wp T_P_reduce (95, [l0, l1, l2, l3, l4], .inl y :: .inl x :: st, w) Q ↔ (if y ≤ x then cf_wp T_P_reduce (116, [l0, l1, l2, l3, l4], st, w) Q else cf_wp T_P_reduce (98, [l0, l1, l2, l3, l4], st, w) Q) := cf_wi rfl
theorem r_P_reduce_98 {l1 l2 l3 l4 : Option cf_AV} {k : Nat} {st : List cf_AV} {w : cf_Wd} {Q : cf_Rs → Prop} : cf_wp T_P_reduce (98, [some (.inr k), l1, l2, l3, l4], st, w) Q ↔ cf_wp T_P_reduce (99, [some (.inr k), l1, l2, l3, l4], .inr k :: st, w) Q := cf_w1 rfl
theorem r_P_reduce_99 {l1 l2 l3 l4 : Option cf_AV} {k : Nat} {st : List cf_AV} {w : cf_Wd} {Q : cf_Rs → Prop} : cf_wp T_P_reduce (99, [some (.inr k), l1, l2, l3, l4], st, w) Q ↔ cf_wp T_P_reduce (100, [some (.inr k), l1, l2, l3, l4], .inr k :: st, w) Q := cf_w1 rfl
theorem r_P_reduce_100 {l0 l1 l2 l3 l4 : Option cf_AV} {st : List cf_AV} {w : cf_Wd} {Q : cf_Rs → Prop} : cf_wp T_P_reduce (100, [l0, l1, l2, l3, l4], .inr 15 :: st, w) Q ↔ cf_wp T_P_reduce (103, [l0, l1, l2, l3, l4], .inl (w 15 22) :: st, w) Q := cf_w1 rfl
theorem r_P_reduce_103 {l0 l1 l2 l4 : Option cf_AV} {x : Int32} {st : List cf_AV} {w : cf_Wd} {Q : cf_Rs → Prop} : cf_wp T_P_reduce (103, [l0, l1, l2, some (.inl x), l4], st, w) Q ↔ cf_wp T_P_reduce (104, [l0, l1, l2, some (.inl x), l4], .inl x :: st, w) Q := cf_w1 rfl
theorem r_P_reduce_104 {l0 l1 l3 l4 : Option cf_AV} {x : Int32} {st : List cf_AV} {w : cf_Wd} {Q : cf_Rs → Prop} : cf_wp T_P_reduce (104, [l0, l1, some (.inl x), l3, l4], st, w) Q ↔ cf_wp T_P_reduce (105, [l0, l1, some (.inl x), l3, l4], .inl x :: st, w) Q := cf_w1 rfl
theorem r_P_reduce_105 {l0 l1 l2 l3 l4 : Option cf_AV} {a2 a1 a0 : Int32} {t0 : cf_AV} {w : cf_Wd} {Q : cf_Rs → Prop} : cf_wp T_P_reduce (105, [l0, l1, l2, l3, l4], [.inl a2, .inl a1, .inl a0, t0], w) Q ↔ ∃ x w1, F_P_piece [.inl a0, .inl a1, .inl a2] w = some (some (.inl x), w1) ∧ cf_wp T_P_reduce (108, [l0, l1, l2, l3, l4], [.inl x, t0], w1) Q := cf_wci (n := 3) (F := F_P_piece) (nx := 108) rfl rfl cf_F_i
theorem c_P_reduce_105 {l0 l1 l2 l3 l4 : Option cf_AV} {a2 a1 a0 : Int32} {t0 : cf_AV} {x1 : Int32} {w1 : cf_Wd} {w : cf_Wd} {Q : cf_Rs → Prop} (hs : F_P_piece [.inl a0, .inl a1, .inl a2] w = some (some (.inl x1), w1)) : cf_wp T_P_reduce (105, [l0, l1, l2, l3, l4], [.inl a2, .inl a1, .inl a0, t0], w) Q ↔ cf_wp T_P_reduce (108, [l0, l1, l2, l3, l4], [.inl x1, t0], w1) Q := r_P_reduce_105.trans (cf_xi hs)
theorem r_P_reduce_108 {l0 l1 l2 l3 l4 : Option cf_AV} {x : Int32} {st : List cf_AV} {w : cf_Wd} {Q : cf_Rs → Prop} : cf_wp T_P_reduce (108, [l0, l1, l2, l3, l4], .inl x :: .inr 15 :: st, w) Q ↔ cf_wp T_P_reduce (111, [l0, l1, l2, l3, l4], st, (cf_wa w 15 (upd (w 15) 22 x))) Q := cf_w1 rfl
theorem r_P_reduce_111 {l0 l1 l2 l3 l4 : Option cf_AV} {st : List cf_AV} {w : cf_Wd} {Q : cf_Rs → Prop} : cf_wp T_P_reduce (111, [l0, l1, l2, l3, l4], st, w) Q ↔ cf_wp T_P_reduce (112, [l0, l1, l2, l3, l4], .inl 2 :: st, w) Q := cf_w1 rfl
theorem r_P_reduce_112 {l0 l1 l2 l3 l4 : Option cf_AV} {x : Int32} {st : List cf_AV} {w : cf_Wd} {Q : cf_Rs → Prop} : cf_wp T_P_reduce (112, [l0, l1, l2, l3, l4], .inl x :: st, w) Q ↔ cf_wp T_P_reduce (113, [l0, l1, some (.inl x), l3, l4], st, w) Q := cf_w1 rfl
theorem r_P_reduce_113 {l0 l1 l2 l3 l4 : Option cf_AV} {st : List cf_AV} {w : cf_Wd} {Q : cf_Rs → Prop} : cf_wp T_P_reduce (113, [l0, l1, l2, l3, l4], st, w) Q ↔ cf_wp T_P_reduce (210, [l0, l1, l2, l3, l4], st, w) Q := cf_w1 rfl
theorem r_P_reduce_116 {l1 l2 l3 l4 : Option cf_AV} {k : Nat} {st : List cf_AV} {w : cf_Wd} {Q : cf_Rs → Prop} : cf_wp T_P_reduce (116, [some (.inr k), l1, l2, l3, l4], st, w) Q ↔ cf_wp T_P_reduce (117, [some (.inr k), l1, l2, l3, l4], .inr k :: st, w) Q := cf_w1 rfl
theorem r_P_reduce_117 {l0 l1 l3 l4 : Option cf_AV} {x : Int32} {st : List cf_AV} {w : cf_Wd} {Q : cf_Rs → Prop} : cf_wp T_P_reduce (117, [l0, l1, some (.inl x), l3, l4], st, w) Q ↔ cf_wp T_P_reduce (118, [l0, l1, some (.inl x), l3, l4], .inl x :: st, w) Q := cf_w1 rfl
theorem r_P_reduce_118 {l0 l1 l2 l3 l4 : Option cf_AV} {st : List cf_AV} {w : cf_Wd} {Q : cf_Rs → Prop} : cf_wp T_P_reduce (118, [l0, l1, l2, l3, l4], st, w) Q ↔ cf_wp T_P_reduce (119, [l0, l1, l2, l3, l4], .inl 1 :: st, w) Q := cf_w1 rfl
theorem r_P_reduce_119 {l0 l2 l3 l4 : Option cf_AV} {x : Int32} {st : List cf_AV} {w : cf_Wd} {Q : cf_Rs → Prop} : cf_wp T_P_reduce (119, [l0, some (.inl x), l2, l3, l4], st, w) Q ↔ cf_wp T_P_reduce (120, [l0, some (.inl x), l2, l3, l4], .inl x :: st, w) Q := cf_w1 rfl
theorem r_P_reduce_120 {l0 l1 l2 l3 l4 : Option cf_AV} {a3 a2 a1 : Int32} {w : cf_Wd} {Q : cf_Rs → Prop} : cf_wp T_P_reduce (120, [l0, l1, l2, l3, l4], [.inl a3, .inl a2, .inl a1, .inr 15], w) Q ↔ ∃ x w1, F_P_failing [.inr 15, .inl a1, .inl a2, .inl a3] w = some (some (.inl x), w1) ∧ cf_wp T_P_reduce (123, [l0, l1, l2, l3, l4], [.inl x], w1) Q := cf_wci (n := 4) (F := F_P_failing) (nx := 123) rfl rfl cf_F_i
theorem c_P_reduce_120 {l0 l1 l2 l3 l4 : Option cf_AV} {a3 a2 a1 : Int32} {x1 : Int32} {w1 : cf_Wd} {w : cf_Wd} {Q : cf_Rs → Prop} (hs : F_P_failing [.inr 15, .inl a1, .inl a2, .inl a3] w = some (some (.inl x1), w1)) : cf_wp T_P_reduce (120, [l0, l1, l2, l3, l4], [.inl a3, .inl a2, .inl a1, .inr 15], w) Q ↔ cf_wp T_P_reduce (123, [l0, l1, l2, l3, l4], [.inl x1], w1) Q := r_P_reduce_120.trans (cf_xi hs)
theorem r_P_reduce_123 {l0 l1 l2 l3 l4 : Option cf_AV} {x : Int32} {st : List cf_AV} {w : cf_Wd} {Q : cf_Rs → Prop} : cf_wp T_P_reduce (123, [l0, l1, l2, l3, l4], .inl x :: st, w) Q ↔ cf_wp T_P_reduce (124, [l0, l1, l2, some (.inl x), l4], st, w) Q := cf_w1 rfl
theorem r_P_reduce_124 {l0 l1 l2 l4 : Option cf_AV} {x : Int32} {st : List cf_AV} {w : cf_Wd} {Q : cf_Rs → Prop} : cf_wp T_P_reduce (124, [l0, l1, l2, some (.inl x), l4], st, w) Q ↔ cf_wp T_P_reduce (125, [l0, l1, l2, some (.inl x), l4], .inl x :: st, w) Q := cf_w1 rfl
theorem r_P_reduce_125 {l0 l1 l2 l3 l4 : Option cf_AV} {x : Int32} {st : List cf_AV} {w : cf_Wd} {Q : cf_Rs → Prop} : cf_wp T_P_reduce (125, [l0, l1, l2, l3, l4], .inl x :: st, w) Q ↔ (if 0 ≤ x then cf_wp T_P_reduce (129, [l0, l1, l2, l3, l4], st, w) Q else cf_wp T_P_reduce (128, [l0, l1, l2, l3, l4], st, w) Q) := cf_wi rfl
theorem r_P_reduce_128 {l0 l1 l2 l3 l4 : Option cf_AV} {w : cf_Wd} {P : cf_Wd → Prop} : cf_wp T_P_reduce (128, [l0, l1, l2, l3, l4], [], w) (cf_qv P) ↔ P w := Iff.trans (cf_wr (q := (none, w)) rfl) Iff.rfl
theorem r_P_reduce_129 {l0 l1 l2 l4 : Option cf_AV} {x : Int32} {st : List cf_AV} {w : cf_Wd} {Q : cf_Rs → Prop} : cf_wp T_P_reduce (129, [l0, l1, l2, some (.inl x), l4], st, w) Q ↔ cf_wp T_P_reduce (130, [l0, l1, l2, some (.inl x), l4], .inl x :: st, w) Q := cf_w1 rfl
theorem r_P_reduce_130 {l0 l1 l3 l4 : Option cf_AV} {x : Int32} {st : List cf_AV} {w : cf_Wd} {Q : cf_Rs → Prop} : cf_wp T_P_reduce (130, [l0, l1, some (.inl x), l3, l4], st, w) Q ↔ cf_wp T_P_reduce (131, [l0, l1, some (.inl x), l3, l4], .inl x :: st, w) Q := cf_w1 rfl
theorem r_P_reduce_131 {l0 l1 l2 l3 l4 : Option cf_AV} {x y : Int32} {st : List cf_AV} {w : cf_Wd} {Q : cf_Rs → Prop} : cf_wp T_P_reduce (131, [l0, l1, l2, l3, l4], .inl y :: .inl x :: st, w) Q ↔ (if y ≤ x then cf_wp T_P_reduce (172, [l0, l1, l2, l3, l4], st, w) Q else cf_wp T_P_reduce (134, [l0, l1, l2, l3, l4], st, w) Q) := cf_wi rfl
theorem r_P_reduce_134 {l1 l2 l3 l4 : Option cf_AV} {k : Nat} {st : List cf_AV} {w : cf_Wd} {Q : cf_Rs → Prop} : cf_wp T_P_reduce (134, [some (.inr k), l1, l2, l3, l4], st, w) Q ↔ cf_wp T_P_reduce (135, [some (.inr k), l1, l2, l3, l4], .inr k :: st, w) Q := cf_w1 rfl
theorem r_P_reduce_135 {l1 l2 l3 l4 : Option cf_AV} {k : Nat} {st : List cf_AV} {w : cf_Wd} {Q : cf_Rs → Prop} : cf_wp T_P_reduce (135, [some (.inr k), l1, l2, l3, l4], st, w) Q ↔ cf_wp T_P_reduce (136, [some (.inr k), l1, l2, l3, l4], .inr k :: st, w) Q := cf_w1 rfl
theorem r_P_reduce_136 {l0 l1 l2 l3 l4 : Option cf_AV} {st : List cf_AV} {w : cf_Wd} {Q : cf_Rs → Prop} : cf_wp T_P_reduce (136, [l0, l1, l2, l3, l4], .inr 15 :: st, w) Q ↔ cf_wp T_P_reduce (139, [l0, l1, l2, l3, l4], .inl (w 15 22) :: st, w) Q := cf_w1 rfl
theorem r_P_reduce_139 {l1 l2 l3 l4 : Option cf_AV} {k : Nat} {st : List cf_AV} {w : cf_Wd} {Q : cf_Rs → Prop} : cf_wp T_P_reduce (139, [some (.inr k), l1, l2, l3, l4], st, w) Q ↔ cf_wp T_P_reduce (140, [some (.inr k), l1, l2, l3, l4], .inr k :: st, w) Q := cf_w1 rfl
theorem r_P_reduce_140 {l0 l1 l2 l3 l4 : Option cf_AV} {st : List cf_AV} {w : cf_Wd} {Q : cf_Rs → Prop} : cf_wp T_P_reduce (140, [l0, l1, l2, l3, l4], .inr 15 :: st, w) Q ↔ cf_wp T_P_reduce (143, [l0, l1, l2, l3, l4], .inl (w 15 22) :: st, w) Q := cf_w1 rfl
theorem r_P_reduce_143 {l0 l1 l2 l4 : Option cf_AV} {x : Int32} {st : List cf_AV} {w : cf_Wd} {Q : cf_Rs → Prop} : cf_wp T_P_reduce (143, [l0, l1, l2, some (.inl x), l4], st, w) Q ↔ cf_wp T_P_reduce (144, [l0, l1, l2, some (.inl x), l4], .inl x :: st, w) Q := cf_w1 rfl
theorem r_P_reduce_144 {l0 l1 l3 l4 : Option cf_AV} {x : Int32} {st : List cf_AV} {w : cf_Wd} {Q : cf_Rs → Prop} : cf_wp T_P_reduce (144, [l0, l1, some (.inl x), l3, l4], st, w) Q ↔ cf_wp T_P_reduce (145, [l0, l1, some (.inl x), l3, l4], .inl x :: st, w) Q := cf_w1 rfl
theorem r_P_reduce_145 {l0 l1 l2 l3 l4 : Option cf_AV} {a2 a1 a0 : Int32} {t0 t1 : cf_AV} {w : cf_Wd} {Q : cf_Rs → Prop} : cf_wp T_P_reduce (145, [l0, l1, l2, l3, l4], [.inl a2, .inl a1, .inl a0, t0, t1], w) Q ↔ ∃ x w1, F_P_piece [.inl a0, .inl a1, .inl a2] w = some (some (.inl x), w1) ∧ cf_wp T_P_reduce (148, [l0, l1, l2, l3, l4], [.inl x, t0, t1], w1) Q := cf_wci (n := 3) (F := F_P_piece) (nx := 148) rfl rfl cf_F_i
theorem c_P_reduce_145 {l0 l1 l2 l3 l4 : Option cf_AV} {a2 a1 a0 : Int32} {t0 t1 : cf_AV} {x1 : Int32} {w1 : cf_Wd} {w : cf_Wd} {Q : cf_Rs → Prop} (hs : F_P_piece [.inl a0, .inl a1, .inl a2] w = some (some (.inl x1), w1)) : cf_wp T_P_reduce (145, [l0, l1, l2, l3, l4], [.inl a2, .inl a1, .inl a0, t0, t1], w) Q ↔ cf_wp T_P_reduce (148, [l0, l1, l2, l3, l4], [.inl x1, t0, t1], w1) Q := r_P_reduce_145.trans (cf_xi hs)
theorem r_P_reduce_148 {l0 l1 l2 l3 l4 : Option cf_AV} {st : List cf_AV} {w : cf_Wd} {Q : cf_Rs → Prop} : cf_wp T_P_reduce (148, [l0, l1, l2, l3, l4], st, w) Q ↔ cf_wp T_P_reduce (149, [l0, l1, l2, l3, l4], .inl (-1) :: st, w) Q := cf_w1 rfl
theorem r_P_reduce_149 {l0 l1 l2 l3 l4 : Option cf_AV} {x y : Int32} {st : List cf_AV} {w : cf_Wd} {Q : cf_Rs → Prop} : cf_wp T_P_reduce (149, [l0, l1, l2, l3, l4], .inl y :: .inl x :: st, w) Q ↔ cf_wp T_P_reduce (150, [l0, l1, l2, l3, l4], .inl (x ^^^ y) :: st, w) Q := cf_w1 rfl
theorem r_P_reduce_150 {l0 l1 l2 l3 l4 : Option cf_AV} {x y : Int32} {st : List cf_AV} {w : cf_Wd} {Q : cf_Rs → Prop} : cf_wp T_P_reduce (150, [l0, l1, l2, l3, l4], .inl y :: .inl x :: st, w) Q ↔ cf_wp T_P_reduce (151, [l0, l1, l2, l3, l4], .inl (x &&& y) :: st, w) Q := cf_w1 rfl
theorem r_P_reduce_151 {l0 l1 l2 l3 l4 : Option cf_AV} {x : Int32} {st : List cf_AV} {w : cf_Wd} {Q : cf_Rs → Prop} : cf_wp T_P_reduce (151, [l0, l1, l2, l3, l4], .inl x :: .inr 15 :: st, w) Q ↔ cf_wp T_P_reduce (154, [l0, l1, l2, l3, l4], st, (cf_wa w 15 (upd (w 15) 22 x))) Q := cf_w1 rfl
theorem r_P_reduce_154 {l0 l1 l3 l4 : Option cf_AV} {x : Int32} {st : List cf_AV} {w : cf_Wd} {Q : cf_Rs → Prop} : cf_wp T_P_reduce (154, [l0, l1, some (.inl x), l3, l4], st, w) Q ↔ cf_wp T_P_reduce (155, [l0, l1, some (.inl x), l3, l4], .inl x :: st, w) Q := cf_w1 rfl
theorem r_P_reduce_155 {l0 l1 l2 l3 l4 : Option cf_AV} {st : List cf_AV} {w : cf_Wd} {Q : cf_Rs → Prop} : cf_wp T_P_reduce (155, [l0, l1, l2, l3, l4], st, w) Q ↔ cf_wp T_P_reduce (156, [l0, l1, l2, l3, l4], .inl 1 :: st, w) Q := cf_w1 rfl
theorem r_P_reduce_156 {l0 l1 l2 l3 l4 : Option cf_AV} {x y : Int32} {st : List cf_AV} {w : cf_Wd} {Q : cf_Rs → Prop} : cf_wp T_P_reduce (156, [l0, l1, l2, l3, l4], .inl y :: .inl x :: st, w) Q ↔ cf_wp T_P_reduce (157, [l0, l1, l2, l3, l4], .inl (x - y) :: st, w) Q := cf_w1 rfl
theorem r_P_reduce_157 {l0 l1 l2 l3 l4 : Option cf_AV} {st : List cf_AV} {w : cf_Wd} {Q : cf_Rs → Prop} : cf_wp T_P_reduce (157, [l0, l1, l2, l3, l4], st, w) Q ↔ cf_wp T_P_reduce (158, [l0, l1, l2, l3, l4], .inl 2 :: st, w) Q := cf_w1 rfl
theorem r_P_reduce_158 {l0 l1 l2 l3 l4 : Option cf_AV} {x y : Int32} {st : List cf_AV} {w : cf_Wd} {Q : cf_Rs → Prop} : cf_wp T_P_reduce (158, [l0, l1, l2, l3, l4], .inl y :: .inl x :: st, w) Q ↔ (if x ≤ y then cf_wp T_P_reduce (167, [l0, l1, l2, l3, l4], st, w) Q else cf_wp T_P_reduce (161, [l0, l1, l2, l3, l4], st, w) Q) := cf_wi rfl
theorem r_P_reduce_161 {l0 l1 l3 l4 : Option cf_AV} {x : Int32} {st : List cf_AV} {w : cf_Wd} {Q : cf_Rs → Prop} : cf_wp T_P_reduce (161, [l0, l1, some (.inl x), l3, l4], st, w) Q ↔ cf_wp T_P_reduce (162, [l0, l1, some (.inl x), l3, l4], .inl x :: st, w) Q := cf_w1 rfl
theorem r_P_reduce_162 {l0 l1 l2 l3 l4 : Option cf_AV} {st : List cf_AV} {w : cf_Wd} {Q : cf_Rs → Prop} : cf_wp T_P_reduce (162, [l0, l1, l2, l3, l4], st, w) Q ↔ cf_wp T_P_reduce (163, [l0, l1, l2, l3, l4], .inl 1 :: st, w) Q := cf_w1 rfl
theorem r_P_reduce_163 {l0 l1 l2 l3 l4 : Option cf_AV} {x y : Int32} {st : List cf_AV} {w : cf_Wd} {Q : cf_Rs → Prop} : cf_wp T_P_reduce (163, [l0, l1, l2, l3, l4], .inl y :: .inl x :: st, w) Q ↔ cf_wp T_P_reduce (164, [l0, l1, l2, l3, l4], .inl (x - y) :: st, w) Q := cf_w1 rfl
theorem r_P_reduce_164 {l0 l1 l2 l3 l4 : Option cf_AV} {st : List cf_AV} {w : cf_Wd} {Q : cf_Rs → Prop} : cf_wp T_P_reduce (164, [l0, l1, l2, l3, l4], st, w) Q ↔ cf_wp T_P_reduce (168, [l0, l1, l2, l3, l4], st, w) Q := cf_w1 rfl
theorem r_P_reduce_167 {l0 l1 l2 l3 l4 : Option cf_AV} {st : List cf_AV} {w : cf_Wd} {Q : cf_Rs → Prop} : cf_wp T_P_reduce (167, [l0, l1, l2, l3, l4], st, w) Q ↔ cf_wp T_P_reduce (168, [l0, l1, l2, l3, l4], .inl 2 :: st, w) Q := cf_w1 rfl
theorem r_P_reduce_168 {l0 l1 l2 l3 l4 : Option cf_AV} {x : Int32} {st : List cf_AV} {w : cf_Wd} {Q : cf_Rs → Prop} : cf_wp T_P_reduce (168, [l0, l1, l2, l3, l4], .inl x :: st, w) Q ↔ cf_wp T_P_reduce (169, [l0, l1, some (.inl x), l3, l4], st, w) Q := cf_w1 rfl
theorem r_P_reduce_169 {l0 l1 l2 l3 l4 : Option cf_AV} {st : List cf_AV} {w : cf_Wd} {Q : cf_Rs → Prop} : cf_wp T_P_reduce (169, [l0, l1, l2, l3, l4], st, w) Q ↔ cf_wp T_P_reduce (210, [l0, l1, l2, l3, l4], st, w) Q := cf_w1 rfl
theorem r_P_reduce_172 {l1 l2 l3 l4 : Option cf_AV} {k : Nat} {st : List cf_AV} {w : cf_Wd} {Q : cf_Rs → Prop} : cf_wp T_P_reduce (172, [some (.inr k), l1, l2, l3, l4], st, w) Q ↔ cf_wp T_P_reduce (173, [some (.inr k), l1, l2, l3, l4], .inr k :: st, w) Q := cf_w1 rfl
theorem r_P_reduce_173 {l0 l1 l2 l3 l4 : Option cf_AV} {st : List cf_AV} {w : cf_Wd} {Q : cf_Rs → Prop} : cf_wp T_P_reduce (173, [l0, l1, l2, l3, l4], .inr 15 :: st, w) Q ↔ cf_wp T_P_reduce (176, [l0, l1, l2, l3, l4], .inl (w 15 22) :: st, w) Q := cf_w1 rfl
theorem r_P_reduce_176 {l0 l1 l2 l3 l4 : Option cf_AV} {a0 : Int32} {w : cf_Wd} {Q : cf_Rs → Prop} : cf_wp T_P_reduce (176, [l0, l1, l2, l3, l4], [.inl a0], w) Q ↔ ∃ x w1, F_P_bits [.inl a0] w = some (some (.inl x), w1) ∧ cf_wp T_P_reduce (179, [l0, l1, l2, l3, l4], [.inl x], w1) Q := cf_wci (n := 1) (F := F_P_bits) (nx := 179) rfl rfl cf_F_i
theorem c_P_reduce_176 {l0 l1 l2 l3 l4 : Option cf_AV} {a0 : Int32} {x1 : Int32} {w1 : cf_Wd} {w : cf_Wd} {Q : cf_Rs → Prop} (hs : F_P_bits [.inl a0] w = some (some (.inl x1), w1)) : cf_wp T_P_reduce (176, [l0, l1, l2, l3, l4], [.inl a0], w) Q ↔ cf_wp T_P_reduce (179, [l0, l1, l2, l3, l4], [.inl x1], w1) Q := r_P_reduce_176.trans (cf_xi hs)
theorem r_P_reduce_179 {l0 l1 l2 l3 l4 : Option cf_AV} {x : Int32} {st : List cf_AV} {w : cf_Wd} {Q : cf_Rs → Prop} : cf_wp T_P_reduce (179, [l0, l1, l2, l3, l4], .inl x :: st, w) Q ↔ cf_wp T_P_reduce (181, [l0, l1, l2, l3, some (.inl x)], st, w) Q := cf_w1 rfl
theorem r_P_reduce_181 {l0 l1 l3 l4 : Option cf_AV} {x : Int32} {st : List cf_AV} {w : cf_Wd} {Q : cf_Rs → Prop} : cf_wp T_P_reduce (181, [l0, l1, some (.inl x), l3, l4], st, w) Q ↔ cf_wp T_P_reduce (182, [l0, l1, some (.inl x), l3, l4], .inl x :: st, w) Q := cf_w1 rfl
theorem r_P_reduce_182 {l0 l1 l2 l3 : Option cf_AV} {x : Int32} {st : List cf_AV} {w : cf_Wd} {Q : cf_Rs → Prop} : cf_wp T_P_reduce (182, [l0, l1, l2, l3, some (.inl x)], st, w) Q ↔ cf_wp T_P_reduce (184, [l0, l1, l2, l3, some (.inl x)], .inl x :: st, w) Q := cf_w1 rfl
theorem r_P_reduce_184 {l0 l1 l2 l3 l4 : Option cf_AV} {x y : Int32} {st : List cf_AV} {w : cf_Wd} {Q : cf_Rs → Prop} : cf_wp T_P_reduce (184, [l0, l1, l2, l3, l4], .inl y :: .inl x :: st, w) Q ↔ (if x < y then cf_wp T_P_reduce (193, [l0, l1, l2, l3, l4], st, w) Q else cf_wp T_P_reduce (187, [l0, l1, l2, l3, l4], st, w) Q) := cf_wi rfl
theorem r_P_reduce_187 {l1 l2 l3 l4 : Option cf_AV} {k : Nat} {st : List cf_AV} {w : cf_Wd} {Q : cf_Rs → Prop} : cf_wp T_P_reduce (187, [some (.inr k), l1, l2, l3, l4], st, w) Q ↔ cf_wp T_P_reduce (188, [some (.inr k), l1, l2, l3, l4], .inr k :: st, w) Q := cf_w1 rfl
theorem r_P_reduce_188 {l0 l1 l2 l3 l4 : Option cf_AV} {st : List cf_AV} {w : cf_Wd} {Q : cf_Rs → Prop} : cf_wp T_P_reduce (188, [l0, l1, l2, l3, l4], st, w) Q ↔ cf_wp T_P_reduce (189, [l0, l1, l2, l3, l4], .inl 4 :: st, w) Q := cf_w1 rfl
theorem r_P_reduce_189 {l0 l1 l2 l3 l4 : Option cf_AV} {x : Int32} {st : List cf_AV} {w : cf_Wd} {Q : cf_Rs → Prop} : cf_wp T_P_reduce (189, [l0, l1, l2, l3, l4], .inl x :: .inr 15 :: st, w) Q ↔ cf_wp T_P_reduce (192, [l0, l1, l2, l3, l4], st, (cf_wa w 15 (upd (w 15) 18 x))) Q := cf_w1 rfl
theorem r_P_reduce_192 {l0 l1 l2 l3 l4 : Option cf_AV} {w : cf_Wd} {P : cf_Wd → Prop} : cf_wp T_P_reduce (192, [l0, l1, l2, l3, l4], [], w) (cf_qv P) ↔ P w := Iff.trans (cf_wr (q := (none, w)) rfl) Iff.rfl
theorem r_P_reduce_193 {l0 l1 l2 l3 l4 : Option cf_AV} {st : List cf_AV} {w : cf_Wd} {Q : cf_Rs → Prop} : cf_wp T_P_reduce (193, [l0, l1, l2, l3, l4], st, w) Q ↔ cf_wp T_P_reduce (194, [l0, l1, l2, l3, l4], .inl 2 :: st, w) Q := cf_w1 rfl
theorem r_P_reduce_194 {l0 l1 l3 l4 : Option cf_AV} {x : Int32} {st : List cf_AV} {w : cf_Wd} {Q : cf_Rs → Prop} : cf_wp T_P_reduce (194, [l0, l1, some (.inl x), l3, l4], st, w) Q ↔ cf_wp T_P_reduce (195, [l0, l1, some (.inl x), l3, l4], .inl x :: st, w) Q := cf_w1 rfl
theorem r_P_reduce_195 {l0 l1 l2 l3 l4 : Option cf_AV} {x y : Int32} {st : List cf_AV} {w : cf_Wd} {Q : cf_Rs → Prop} : cf_wp T_P_reduce (195, [l0, l1, l2, l3, l4], .inl y :: .inl x :: st, w) Q ↔ cf_wp T_P_reduce (196, [l0, l1, l2, l3, l4], .inl (x * y) :: st, w) Q := cf_w1 rfl
theorem r_P_reduce_196 {l0 l1 l2 l3 : Option cf_AV} {x : Int32} {st : List cf_AV} {w : cf_Wd} {Q : cf_Rs → Prop} : cf_wp T_P_reduce (196, [l0, l1, l2, l3, some (.inl x)], st, w) Q ↔ cf_wp T_P_reduce (198, [l0, l1, l2, l3, some (.inl x)], .inl x :: st, w) Q := cf_w1 rfl
theorem r_P_reduce_198 {l0 l1 l2 l3 l4 : Option cf_AV} {x y : Int32} {st : List cf_AV} {w : cf_Wd} {Q : cf_Rs → Prop} : cf_wp T_P_reduce (198, [l0, l1, l2, l3, l4], .inl y :: .inl x :: st, w) Q ↔ (if y ≤ x then cf_wp T_P_reduce (207, [l0, l1, l2, l3, l4], st, w) Q else cf_wp T_P_reduce (201, [l0, l1, l2, l3, l4], st, w) Q) := cf_wi rfl
theorem r_P_reduce_201 {l0 l1 l2 l3 l4 : Option cf_AV} {st : List cf_AV} {w : cf_Wd} {Q : cf_Rs → Prop} : cf_wp T_P_reduce (201, [l0, l1, l2, l3, l4], st, w) Q ↔ cf_wp T_P_reduce (202, [l0, l1, l2, l3, l4], .inl 2 :: st, w) Q := cf_w1 rfl
theorem r_P_reduce_202 {l0 l1 l3 l4 : Option cf_AV} {x : Int32} {st : List cf_AV} {w : cf_Wd} {Q : cf_Rs → Prop} : cf_wp T_P_reduce (202, [l0, l1, some (.inl x), l3, l4], st, w) Q ↔ cf_wp T_P_reduce (203, [l0, l1, some (.inl x), l3, l4], .inl x :: st, w) Q := cf_w1 rfl
theorem r_P_reduce_203 {l0 l1 l2 l3 l4 : Option cf_AV} {x y : Int32} {st : List cf_AV} {w : cf_Wd} {Q : cf_Rs → Prop} : cf_wp T_P_reduce (203, [l0, l1, l2, l3, l4], .inl y :: .inl x :: st, w) Q ↔ cf_wp T_P_reduce (204, [l0, l1, l2, l3, l4], .inl (x * y) :: st, w) Q := cf_w1 rfl
theorem r_P_reduce_204 {l0 l1 l2 l3 l4 : Option cf_AV} {st : List cf_AV} {w : cf_Wd} {Q : cf_Rs → Prop} : cf_wp T_P_reduce (204, [l0, l1, l2, l3, l4], st, w) Q ↔ cf_wp T_P_reduce (209, [l0, l1, l2, l3, l4], st, w) Q := cf_w1 rfl
theorem r_P_reduce_207 {l0 l1 l2 l3 : Option cf_AV} {x : Int32} {st : List cf_AV} {w : cf_Wd} {Q : cf_Rs → Prop} : cf_wp T_P_reduce (207, [l0, l1, l2, l3, some (.inl x)], st, w) Q ↔ cf_wp T_P_reduce (209, [l0, l1, l2, l3, some (.inl x)], .inl x :: st, w) Q := cf_w1 rfl
theorem r_P_reduce_209 {l0 l1 l2 l3 l4 : Option cf_AV} {x : Int32} {st : List cf_AV} {w : cf_Wd} {Q : cf_Rs → Prop} : cf_wp T_P_reduce (209, [l0, l1, l2, l3, l4], .inl x :: st, w) Q ↔ cf_wp T_P_reduce (210, [l0, l1, some (.inl x), l3, l4], st, w) Q := cf_w1 rfl
theorem r_P_reduce_210 {l0 l1 l2 l3 l4 : Option cf_AV} {st : List cf_AV} {w : cf_Wd} {Q : cf_Rs → Prop} : cf_wp T_P_reduce (210, [l0, l1, l2, l3, l4], st, w) Q ↔ cf_wp T_P_reduce (69, [l0, l1, l2, l3, l4], st, w) Q := cf_w1 rfl
theorem r_P_reduce_213 {l1 l2 l3 l4 : Option cf_AV} {k : Nat} {st : List cf_AV} {w : cf_Wd} {Q : cf_Rs → Prop} : cf_wp T_P_reduce (213, [some (.inr k), l1, l2, l3, l4], st, w) Q ↔ cf_wp T_P_reduce (214, [some (.inr k), l1, l2, l3, l4], .inr k :: st, w) Q := cf_w1 rfl
theorem r_P_reduce_214 {l0 l1 l2 l3 l4 : Option cf_AV} {st : List cf_AV} {w : cf_Wd} {Q : cf_Rs → Prop} : cf_wp T_P_reduce (214, [l0, l1, l2, l3, l4], st, w) Q ↔ cf_wp T_P_reduce (215, [l0, l1, l2, l3, l4], .inl 4 :: st, w) Q := cf_w1 rfl
theorem r_P_reduce_215 {l0 l1 l2 l3 l4 : Option cf_AV} {x : Int32} {st : List cf_AV} {w : cf_Wd} {Q : cf_Rs → Prop} : cf_wp T_P_reduce (215, [l0, l1, l2, l3, l4], .inl x :: .inr 15 :: st, w) Q ↔ cf_wp T_P_reduce (218, [l0, l1, l2, l3, l4], st, (cf_wa w 15 (upd (w 15) 18 x))) Q := cf_w1 rfl
theorem r_P_reduce_218 {l0 l1 l2 l3 l4 : Option cf_AV} {w : cf_Wd} {P : cf_Wd → Prop} : cf_wp T_P_reduce (218, [l0, l1, l2, l3, l4], [], w) (cf_qv P) ↔ P w := Iff.trans (cf_wr (q := (none, w)) rfl) Iff.rfl
theorem e_P_reduce {w : cf_Wd} {P : cf_Wd → Prop} (h : cf_wp T_P_reduce (0, [some (.inr 15), none, none, none, none], [], w) (cf_qv P)) : ∃ w1, F_P_reduce [.inr 15] w = some (none, w1) ∧ P w1 := cf_ev rfl (Nat.le_of_ble_eq_true rfl) h
