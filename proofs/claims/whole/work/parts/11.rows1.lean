noncomputable def T_H_has (pc : Nat) : cf_Rw := bif Nat.ble pc 6 then
 (bif Nat.ble pc 1 then
  (bif Nat.ble pc 0 then
   (bif Nat.beq pc 0 then cf_iload 1 1 else cf_stuck)
   else
   (bif Nat.beq pc 1 then cf_iflt 16 4 else cf_stuck))
  else
  (bif Nat.ble pc 4 then
   (bif Nat.beq pc 4 then cf_iload 1 5 else cf_stuck)
   else
   (bif Nat.ble pc 5 then
    (bif Nat.beq pc 5 then cf_aload 0 6 else cf_stuck)
    else
    (bif Nat.beq pc 6 then cf_get 0 4 9 else cf_stuck))))
 else
 (bif Nat.ble pc 12 then
  (bif Nat.ble pc 9 then
   (bif Nat.beq pc 9 then cf_icge 16 12 else cf_stuck)
   else
   (bif Nat.beq pc 12 then cf_const 1 13 else cf_stuck))
  else
  (bif Nat.ble pc 13 then
   (bif Nat.beq pc 13 then cf_goto 17 else cf_stuck)
   else
   (bif Nat.ble pc 16 then
    (bif Nat.beq pc 16 then cf_const 0 17 else cf_stuck)
    else
    (bif Nat.beq pc 17 then cf_iret else cf_stuck))))
noncomputable def F_H_has : List cf_AV → cf_Wd → Option cf_Rs := cf_F T_H_has 2 (some .boolean) (cf_shV 1 1)
theorem r_H_has_0 {l0 : Option cf_AV} {x : Int32} {st : List cf_AV} {w : cf_Wd} {Q : cf_Rs → Prop} : cf_wp T_H_has (0, [l0, some (.inl x)], st, w) Q ↔ cf_wp T_H_has (1, [l0, some (.inl x)], .inl x :: st, w) Q := cf_w1 rfl
theorem r_H_has_1 {l0 l1 : Option cf_AV} {x : Int32} {st : List cf_AV} {w : cf_Wd} {Q : cf_Rs → Prop} : cf_wp T_H_has (1, [l0, l1], .inl x :: st, w) Q ↔ (if x < 0 then cf_wp T_H_has (16, [l0, l1], st, w) Q else cf_wp T_H_has (4, [l0, l1], st, w) Q) := cf_wi rfl
theorem r_H_has_4 {l0 : Option cf_AV} {x : Int32} {st : List cf_AV} {w : cf_Wd} {Q : cf_Rs → Prop} : cf_wp T_H_has (4, [l0, some (.inl x)], st, w) Q ↔ cf_wp T_H_has (5, [l0, some (.inl x)], .inl x :: st, w) Q := cf_w1 rfl
theorem r_H_has_5 {l1 : Option cf_AV} {k : Nat} {st : List cf_AV} {w : cf_Wd} {Q : cf_Rs → Prop} : cf_wp T_H_has (5, [some (.inr k), l1], st, w) Q ↔ cf_wp T_H_has (6, [some (.inr k), l1], .inr k :: st, w) Q := cf_w1 rfl
theorem r_H_has_6 {l0 l1 : Option cf_AV} {st : List cf_AV} {w : cf_Wd} {Q : cf_Rs → Prop} : cf_wp T_H_has (6, [l0, l1], .inr 1 :: st, w) Q ↔ cf_wp T_H_has (9, [l0, l1], .inl (w 1 4) :: st, w) Q := cf_w1 rfl
theorem r_H_has_9 {l0 l1 : Option cf_AV} {x y : Int32} {st : List cf_AV} {w : cf_Wd} {Q : cf_Rs → Prop} : cf_wp T_H_has (9, [l0, l1], .inl y :: .inl x :: st, w) Q ↔ (if y ≤ x then cf_wp T_H_has (16, [l0, l1], st, w) Q else cf_wp T_H_has (12, [l0, l1], st, w) Q) := cf_wi rfl
theorem r_H_has_12 {l0 l1 : Option cf_AV} {st : List cf_AV} {w : cf_Wd} {Q : cf_Rs → Prop} : cf_wp T_H_has (12, [l0, l1], st, w) Q ↔ cf_wp T_H_has (13, [l0, l1], .inl 1 :: st, w) Q := cf_w1 rfl
theorem r_H_has_13 {l0 l1 : Option cf_AV} {st : List cf_AV} {w : cf_Wd} {Q : cf_Rs → Prop} : cf_wp T_H_has (13, [l0, l1], st, w) Q ↔ cf_wp T_H_has (17, [l0, l1], st, w) Q := cf_w1 rfl
theorem r_H_has_16 {l0 l1 : Option cf_AV} {st : List cf_AV} {w : cf_Wd} {Q : cf_Rs → Prop} : cf_wp T_H_has (16, [l0, l1], st, w) Q ↔ cf_wp T_H_has (17, [l0, l1], .inl 0 :: st, w) Q := cf_w1 rfl
theorem r_H_has_17 {l0 l1 : Option cf_AV} {x : Int32} {w : cf_Wd} {P : Int32 → cf_Wd → Prop} : cf_wp T_H_has (17, [l0, l1], [.inl x], w) (cf_qb P) ↔ ((x = 0 ∨ x = 1) ∧ P x w) := Iff.trans (cf_wr (q := (some (.inl x), w)) rfl) Iff.rfl
theorem e_H_has {a1 : Int32} {w : cf_Wd} {P : Int32 → cf_Wd → Prop} (h : cf_wp T_H_has (0, [some (.inr 1), some (.inl a1)], [], w) (cf_qb P)) : ∃ x w1, F_H_has [.inr 1, .inl a1] w = some (some (.inl x), w1) ∧ P x w1 := cf_eb rfl (Nat.le_of_ble_eq_true rfl) h
noncomputable def T_H_mayAdd (pc : Nat) : cf_Rw := bif Nat.ble pc 27 then
 (bif Nat.ble pc 12 then
  (bif Nat.ble pc 6 then
   (bif Nat.ble pc 1 then
    (bif Nat.ble pc 0 then
     (bif Nat.beq pc 0 then cf_aload 0 1 else cf_stuck)
     else
     (bif Nat.beq pc 1 then cf_get 0 4 4 else cf_stuck))
    else
    (bif Nat.ble pc 4 then
     (bif Nat.beq pc 4 then cf_const 14 6 else cf_stuck)
     else
     (bif Nat.beq pc 6 then cf_icne 11 9 else cf_stuck)))
   else
   (bif Nat.ble pc 10 then
    (bif Nat.ble pc 9 then
     (bif Nat.beq pc 9 then cf_const 0 10 else cf_stuck)
     else
     (bif Nat.beq pc 10 then cf_iret else cf_stuck))
    else
    (bif Nat.ble pc 11 then
     (bif Nat.beq pc 11 then cf_iload 1 12 else cf_stuck)
     else
     (bif Nat.beq pc 12 then cf_const (-1) 13 else cf_stuck))))
  else
  (bif Nat.ble pc 18 then
   (bif Nat.ble pc 16 then
    (bif Nat.ble pc 13 then
     (bif Nat.beq pc 13 then cf_icne 27 16 else cf_stuck)
     else
     (bif Nat.beq pc 16 then cf_iload 2 17 else cf_stuck))
    else
    (bif Nat.ble pc 17 then
     (bif Nat.beq pc 17 then cf_const (-1) 18 else cf_stuck)
     else
     (bif Nat.beq pc 18 then cf_icne 25 21 else cf_stuck)))
   else
   (bif Nat.ble pc 22 then
    (bif Nat.ble pc 21 then
     (bif Nat.beq pc 21 then cf_const 1 22 else cf_stuck)
     else
     (bif Nat.beq pc 22 then cf_goto 26 else cf_stuck))
    else
    (bif Nat.ble pc 25 then
     (bif Nat.beq pc 25 then cf_const 0 26 else cf_stuck)
     else
     (bif Nat.ble pc 26 then
      (bif Nat.beq pc 26 then cf_iret else cf_stuck)
      else
      (bif Nat.beq pc 27 then cf_aload 0 28 else cf_stuck))))))
 else
 (bif Nat.ble pc 41 then
  (bif Nat.ble pc 35 then
   (bif Nat.ble pc 29 then
    (bif Nat.ble pc 28 then
     (bif Nat.beq pc 28 then cf_iload 1 29 else cf_stuck)
     else
     (bif Nat.beq pc 29 then cf_call 2 F_H_has 32 else cf_stuck))
    else
    (bif Nat.ble pc 32 then
     (bif Nat.beq pc 32 then cf_ifeq 57 35 else cf_stuck)
     else
     (bif Nat.beq pc 35 then cf_iload 2 36 else cf_stuck)))
   else
   (bif Nat.ble pc 37 then
    (bif Nat.ble pc 36 then
     (bif Nat.beq pc 36 then cf_const (-1) 37 else cf_stuck)
     else
     (bif Nat.beq pc 37 then cf_iceq 53 40 else cf_stuck))
    else
    (bif Nat.ble pc 40 then
     (bif Nat.beq pc 40 then cf_aload 0 41 else cf_stuck)
     else
     (bif Nat.beq pc 41 then cf_iload 2 42 else cf_stuck))))
  else
  (bif Nat.ble pc 49 then
   (bif Nat.ble pc 45 then
    (bif Nat.ble pc 42 then
     (bif Nat.beq pc 42 then cf_call 2 F_H_has 45 else cf_stuck)
     else
     (bif Nat.beq pc 45 then cf_ifeq 57 48 else cf_stuck))
    else
    (bif Nat.ble pc 48 then
     (bif Nat.beq pc 48 then cf_iload 2 49 else cf_stuck)
     else
     (bif Nat.beq pc 49 then cf_iload 1 50 else cf_stuck)))
   else
   (bif Nat.ble pc 53 then
    (bif Nat.ble pc 50 then
     (bif Nat.beq pc 50 then cf_iceq 57 53 else cf_stuck)
     else
     (bif Nat.beq pc 53 then cf_const 1 54 else cf_stuck))
    else
    (bif Nat.ble pc 54 then
     (bif Nat.beq pc 54 then cf_goto 58 else cf_stuck)
     else
     (bif Nat.ble pc 57 then
      (bif Nat.beq pc 57 then cf_const 0 58 else cf_stuck)
      else
      (bif Nat.beq pc 58 then cf_iret else cf_stuck))))))
noncomputable def F_H_mayAdd : List cf_AV → cf_Wd → Option cf_Rs := cf_F T_H_mayAdd 3 (some .boolean) (cf_shV 1 2)
theorem r_H_mayAdd_0 {l1 l2 : Option cf_AV} {k : Nat} {st : List cf_AV} {w : cf_Wd} {Q : cf_Rs → Prop} : cf_wp T_H_mayAdd (0, [some (.inr k), l1, l2], st, w) Q ↔ cf_wp T_H_mayAdd (1, [some (.inr k), l1, l2], .inr k :: st, w) Q := cf_w1 rfl
theorem r_H_mayAdd_1 {l0 l1 l2 : Option cf_AV} {st : List cf_AV} {w : cf_Wd} {Q : cf_Rs → Prop} : cf_wp T_H_mayAdd (1, [l0, l1, l2], .inr 1 :: st, w) Q ↔ cf_wp T_H_mayAdd (4, [l0, l1, l2], .inl (w 1 4) :: st, w) Q := cf_w1 rfl
theorem r_H_mayAdd_4 {l0 l1 l2 : Option cf_AV} {st : List cf_AV} {w : cf_Wd} {Q : cf_Rs → Prop} : cf_wp T_H_mayAdd (4, [l0, l1, l2], st, w) Q ↔ cf_wp T_H_mayAdd (6, [l0, l1, l2], .inl 14 :: st, w) Q := cf_w1 rfl
theorem r_H_mayAdd_6 {l0 l1 l2 : Option cf_AV} {x y : Int32} {st : List cf_AV} {w : cf_Wd} {Q : cf_Rs → Prop} : cf_wp T_H_mayAdd (6, [l0, l1, l2], .inl y :: .inl x :: st, w) Q ↔ (if ¬ x = y then cf_wp T_H_mayAdd (11, [l0, l1, l2], st, w) Q else cf_wp T_H_mayAdd (9, [l0, l1, l2], st, w) Q) := cf_wi rfl
theorem r_H_mayAdd_9 {l0 l1 l2 : Option cf_AV} {st : List cf_AV} {w : cf_Wd} {Q : cf_Rs → Prop} : cf_wp T_H_mayAdd (9, [l0, l1, l2], st, w) Q ↔ cf_wp T_H_mayAdd (10, [l0, l1, l2], .inl 0 :: st, w) Q := cf_w1 rfl
theorem r_H_mayAdd_10 {l0 l1 l2 : Option cf_AV} {x : Int32} {w : cf_Wd} {P : Int32 → cf_Wd → Prop} : cf_wp T_H_mayAdd (10, [l0, l1, l2], [.inl x], w) (cf_qb P) ↔ ((x = 0 ∨ x = 1) ∧ P x w) := Iff.trans (cf_wr (q := (some (.inl x), w)) rfl) Iff.rfl
theorem r_H_mayAdd_11 {l0 l2 : Option cf_AV} {x : Int32} {st : List cf_AV} {w : cf_Wd} {Q : cf_Rs → Prop} : cf_wp T_H_mayAdd (11, [l0, some (.inl x), l2], st, w) Q ↔ cf_wp T_H_mayAdd (12, [l0, some (.inl x), l2], .inl x :: st, w) Q := cf_w1 rfl
theorem r_H_mayAdd_12 {l0 l1 l2 : Option cf_AV} {st : List cf_AV} {w : cf_Wd} {Q : cf_Rs → Prop} : cf_wp T_H_mayAdd (12, [l0, l1, l2], st, w) Q ↔ cf_wp T_H_mayAdd (13, [l0, l1, l2], .inl (-1) :: st, w) Q := cf_w1 rfl
theorem r_H_mayAdd_13 {l0 l1 l2 : Option cf_AV} {x y : Int32} {st : List cf_AV} {w : cf_Wd} {Q : cf_Rs → Prop} : cf_wp T_H_mayAdd (13, [l0, l1, l2], .inl y :: .inl x :: st, w) Q ↔ (if ¬ x = y then cf_wp T_H_mayAdd (27, [l0, l1, l2], st, w) Q else cf_wp T_H_mayAdd (16, [l0, l1, l2], st, w) Q) := cf_wi rfl
theorem r_H_mayAdd_16 {l0 l1 : Option cf_AV} {x : Int32} {st : List cf_AV} {w : cf_Wd} {Q : cf_Rs → Prop} : cf_wp T_H_mayAdd (16, [l0, l1, some (.inl x)], st, w) Q ↔ cf_wp T_H_mayAdd (17, [l0, l1, some (.inl x)], .inl x :: st, w) Q := cf_w1 rfl
theorem r_H_mayAdd_17 {l0 l1 l2 : Option cf_AV} {st : List cf_AV} {w : cf_Wd} {Q : cf_Rs → Prop} : cf_wp T_H_mayAdd (17, [l0, l1, l2], st, w) Q ↔ cf_wp T_H_mayAdd (18, [l0, l1, l2], .inl (-1) :: st, w) Q := cf_w1 rfl
theorem r_H_mayAdd_18 {l0 l1 l2 : Option cf_AV} {x y : Int32} {st : List cf_AV} {w : cf_Wd} {Q : cf_Rs → Prop} : cf_wp T_H_mayAdd (18, [l0, l1, l2], .inl y :: .inl x :: st, w) Q ↔ (if ¬ x = y then cf_wp T_H_mayAdd (25, [l0, l1, l2], st, w) Q else cf_wp T_H_mayAdd (21, [l0, l1, l2], st, w) Q) := cf_wi rfl
theorem r_H_mayAdd_21 {l0 l1 l2 : Option cf_AV} {st : List cf_AV} {w : cf_Wd} {Q : cf_Rs → Prop} : cf_wp T_H_mayAdd (21, [l0, l1, l2], st, w) Q ↔ cf_wp T_H_mayAdd (22, [l0, l1, l2], .inl 1 :: st, w) Q := cf_w1 rfl
theorem r_H_mayAdd_22 {l0 l1 l2 : Option cf_AV} {st : List cf_AV} {w : cf_Wd} {Q : cf_Rs → Prop} : cf_wp T_H_mayAdd (22, [l0, l1, l2], st, w) Q ↔ cf_wp T_H_mayAdd (26, [l0, l1, l2], st, w) Q := cf_w1 rfl
theorem r_H_mayAdd_25 {l0 l1 l2 : Option cf_AV} {st : List cf_AV} {w : cf_Wd} {Q : cf_Rs → Prop} : cf_wp T_H_mayAdd (25, [l0, l1, l2], st, w) Q ↔ cf_wp T_H_mayAdd (26, [l0, l1, l2], .inl 0 :: st, w) Q := cf_w1 rfl
theorem r_H_mayAdd_26 {l0 l1 l2 : Option cf_AV} {x : Int32} {w : cf_Wd} {P : Int32 → cf_Wd → Prop} : cf_wp T_H_mayAdd (26, [l0, l1, l2], [.inl x], w) (cf_qb P) ↔ ((x = 0 ∨ x = 1) ∧ P x w) := Iff.trans (cf_wr (q := (some (.inl x), w)) rfl) Iff.rfl
theorem r_H_mayAdd_27 {l1 l2 : Option cf_AV} {k : Nat} {st : List cf_AV} {w : cf_Wd} {Q : cf_Rs → Prop} : cf_wp T_H_mayAdd (27, [some (.inr k), l1, l2], st, w) Q ↔ cf_wp T_H_mayAdd (28, [some (.inr k), l1, l2], .inr k :: st, w) Q := cf_w1 rfl
theorem r_H_mayAdd_28 {l0 l2 : Option cf_AV} {x : Int32} {st : List cf_AV} {w : cf_Wd} {Q : cf_Rs → Prop} : cf_wp T_H_mayAdd (28, [l0, some (.inl x), l2], st, w) Q ↔ cf_wp T_H_mayAdd (29, [l0, some (.inl x), l2], .inl x :: st, w) Q := cf_w1 rfl
theorem r_H_mayAdd_29 {l0 l1 l2 : Option cf_AV} {a1 : Int32} {w : cf_Wd} {Q : cf_Rs → Prop} : cf_wp T_H_mayAdd (29, [l0, l1, l2], [.inl a1, .inr 1], w) Q ↔ ∃ x w1, F_H_has [.inr 1, .inl a1] w = some (some (.inl x), w1) ∧ cf_wp T_H_mayAdd (32, [l0, l1, l2], [.inl x], w1) Q := cf_wci (n := 2) (F := F_H_has) (nx := 32) rfl rfl cf_F_b
theorem c_H_mayAdd_29 {l0 l1 l2 : Option cf_AV} {a1 : Int32} {x1 : Int32} {w1 : cf_Wd} {w : cf_Wd} {Q : cf_Rs → Prop} (hs : F_H_has [.inr 1, .inl a1] w = some (some (.inl x1), w1)) : cf_wp T_H_mayAdd (29, [l0, l1, l2], [.inl a1, .inr 1], w) Q ↔ cf_wp T_H_mayAdd (32, [l0, l1, l2], [.inl x1], w1) Q := r_H_mayAdd_29.trans (cf_xi hs)
theorem r_H_mayAdd_32 {l0 l1 l2 : Option cf_AV} {x : Int32} {st : List cf_AV} {w : cf_Wd} {Q : cf_Rs → Prop} : cf_wp T_H_mayAdd (32, [l0, l1, l2], .inl x :: st, w) Q ↔ (if x = 0 then cf_wp T_H_mayAdd (57, [l0, l1, l2], st, w) Q else cf_wp T_H_mayAdd (35, [l0, l1, l2], st, w) Q) := cf_wi rfl
theorem r_H_mayAdd_35 {l0 l1 : Option cf_AV} {x : Int32} {st : List cf_AV} {w : cf_Wd} {Q : cf_Rs → Prop} : cf_wp T_H_mayAdd (35, [l0, l1, some (.inl x)], st, w) Q ↔ cf_wp T_H_mayAdd (36, [l0, l1, some (.inl x)], .inl x :: st, w) Q := cf_w1 rfl
theorem r_H_mayAdd_36 {l0 l1 l2 : Option cf_AV} {st : List cf_AV} {w : cf_Wd} {Q : cf_Rs → Prop} : cf_wp T_H_mayAdd (36, [l0, l1, l2], st, w) Q ↔ cf_wp T_H_mayAdd (37, [l0, l1, l2], .inl (-1) :: st, w) Q := cf_w1 rfl
theorem r_H_mayAdd_37 {l0 l1 l2 : Option cf_AV} {x y : Int32} {st : List cf_AV} {w : cf_Wd} {Q : cf_Rs → Prop} : cf_wp T_H_mayAdd (37, [l0, l1, l2], .inl y :: .inl x :: st, w) Q ↔ (if x = y then cf_wp T_H_mayAdd (53, [l0, l1, l2], st, w) Q else cf_wp T_H_mayAdd (40, [l0, l1, l2], st, w) Q) := cf_wi rfl
theorem r_H_mayAdd_40 {l1 l2 : Option cf_AV} {k : Nat} {st : List cf_AV} {w : cf_Wd} {Q : cf_Rs → Prop} : cf_wp T_H_mayAdd (40, [some (.inr k), l1, l2], st, w) Q ↔ cf_wp T_H_mayAdd (41, [some (.inr k), l1, l2], .inr k :: st, w) Q := cf_w1 rfl
theorem r_H_mayAdd_41 {l0 l1 : Option cf_AV} {x : Int32} {st : List cf_AV} {w : cf_Wd} {Q : cf_Rs → Prop} : cf_wp T_H_mayAdd (41, [l0, l1, some (.inl x)], st, w) Q ↔ cf_wp T_H_mayAdd (42, [l0, l1, some (.inl x)], .inl x :: st, w) Q := cf_w1 rfl
theorem r_H_mayAdd_42 {l0 l1 l2 : Option cf_AV} {a1 : Int32} {w : cf_Wd} {Q : cf_Rs → Prop} : cf_wp T_H_mayAdd (42, [l0, l1, l2], [.inl a1, .inr 1], w) Q ↔ ∃ x w1, F_H_has [.inr 1, .inl a1] w = some (some (.inl x), w1) ∧ cf_wp T_H_mayAdd (45, [l0, l1, l2], [.inl x], w1) Q := cf_wci (n := 2) (F := F_H_has) (nx := 45) rfl rfl cf_F_b
theorem c_H_mayAdd_42 {l0 l1 l2 : Option cf_AV} {a1 : Int32} {x1 : Int32} {w1 : cf_Wd} {w : cf_Wd} {Q : cf_Rs → Prop} (hs : F_H_has [.inr 1, .inl a1] w = some (some (.inl x1), w1)) : cf_wp T_H_mayAdd (42, [l0, l1, l2], [.inl a1, .inr 1], w) Q ↔ cf_wp T_H_mayAdd (45, [l0, l1, l2], [.inl x1], w1) Q := r_H_mayAdd_42.trans (cf_xi hs)
theorem r_H_mayAdd_45 {l0 l1 l2 : Option cf_AV} {x : Int32} {st : List cf_AV} {w : cf_Wd} {Q : cf_Rs → Prop} : cf_wp T_H_mayAdd (45, [l0, l1, l2], .inl x :: st, w) Q ↔ (if x = 0 then cf_wp T_H_mayAdd (57, [l0, l1, l2], st, w) Q else cf_wp T_H_mayAdd (48, [l0, l1, l2], st, w) Q) := cf_wi rfl
theorem r_H_mayAdd_48 {l0 l1 : Option cf_AV} {x : Int32} {st : List cf_AV} {w : cf_Wd} {Q : cf_Rs → Prop} : cf_wp T_H_mayAdd (48, [l0, l1, some (.inl x)], st, w) Q ↔ cf_wp T_H_mayAdd (49, [l0, l1, some (.inl x)], .inl x :: st, w) Q := cf_w1 rfl
theorem r_H_mayAdd_49 {l0 l2 : Option cf_AV} {x : Int32} {st : List cf_AV} {w : cf_Wd} {Q : cf_Rs → Prop} : cf_wp T_H_mayAdd (49, [l0, some (.inl x), l2], st, w) Q ↔ cf_wp T_H_mayAdd (50, [l0, some (.inl x), l2], .inl x :: st, w) Q := cf_w1 rfl
theorem r_H_mayAdd_50 {l0 l1 l2 : Option cf_AV} {x y : Int32} {st : List cf_AV} {w : cf_Wd} {Q : cf_Rs → Prop} : cf_wp T_H_mayAdd (50, [l0, l1, l2], .inl y :: .inl x :: st, w) Q ↔ (if x = y then cf_wp T_H_mayAdd (57, [l0, l1, l2], st, w) Q else cf_wp T_H_mayAdd (53, [l0, l1, l2], st, w) Q) := cf_wi rfl
theorem r_H_mayAdd_53 {l0 l1 l2 : Option cf_AV} {st : List cf_AV} {w : cf_Wd} {Q : cf_Rs → Prop} : cf_wp T_H_mayAdd (53, [l0, l1, l2], st, w) Q ↔ cf_wp T_H_mayAdd (54, [l0, l1, l2], .inl 1 :: st, w) Q := cf_w1 rfl
theorem r_H_mayAdd_54 {l0 l1 l2 : Option cf_AV} {st : List cf_AV} {w : cf_Wd} {Q : cf_Rs → Prop} : cf_wp T_H_mayAdd (54, [l0, l1, l2], st, w) Q ↔ cf_wp T_H_mayAdd (58, [l0, l1, l2], st, w) Q := cf_w1 rfl
theorem r_H_mayAdd_57 {l0 l1 l2 : Option cf_AV} {st : List cf_AV} {w : cf_Wd} {Q : cf_Rs → Prop} : cf_wp T_H_mayAdd (57, [l0, l1, l2], st, w) Q ↔ cf_wp T_H_mayAdd (58, [l0, l1, l2], .inl 0 :: st, w) Q := cf_w1 rfl
theorem r_H_mayAdd_58 {l0 l1 l2 : Option cf_AV} {x : Int32} {w : cf_Wd} {P : Int32 → cf_Wd → Prop} : cf_wp T_H_mayAdd (58, [l0, l1, l2], [.inl x], w) (cf_qb P) ↔ ((x = 0 ∨ x = 1) ∧ P x w) := Iff.trans (cf_wr (q := (some (.inl x), w)) rfl) Iff.rfl
theorem e_H_mayAdd {a1 a2 : Int32} {w : cf_Wd} {P : Int32 → cf_Wd → Prop} (h : cf_wp T_H_mayAdd (0, [some (.inr 1), some (.inl a1), some (.inl a2)], [], w) (cf_qb P)) : ∃ x w1, F_H_mayAdd [.inr 1, .inl a1, .inl a2] w = some (some (.inl x), w1) ∧ P x w1 := cf_eb rfl (Nat.le_of_ble_eq_true rfl) h
noncomputable def T_H_addParent (pc : Nat) : cf_Rw := bif Nat.ble pc 13 then
 (bif Nat.ble pc 6 then
  (bif Nat.ble pc 1 then
   (bif Nat.ble pc 0 then
    (bif Nat.beq pc 0 then cf_aload 0 1 else cf_stuck)
    else
    (bif Nat.beq pc 1 then cf_dup 2 else cf_stuck))
   else
   (bif Nat.ble pc 2 then
    (bif Nat.beq pc 2 then cf_get 0 3 5 else cf_stuck)
    else
    (bif Nat.ble pc 5 then
     (bif Nat.beq pc 5 then cf_const 1 6 else cf_stuck)
     else
     (bif Nat.beq pc 6 then cf_iload 2 7 else cf_stuck))))
  else
  (bif Nat.ble pc 8 then
   (bif Nat.ble pc 7 then
    (bif Nat.beq pc 7 then cf_bin (fun x y => x <<< (y &&& 31)) 8 else cf_stuck)
    else
    (bif Nat.beq pc 8 then cf_bin (fun x y => x ||| y) 9 else cf_stuck))
   else
   (bif Nat.ble pc 9 then
    (bif Nat.beq pc 9 then cf_put 0 3 12 else cf_stuck)
    else
    (bif Nat.ble pc 12 then
     (bif Nat.beq pc 12 then cf_aload 0 13 else cf_stuck)
     else
     (bif Nat.beq pc 13 then cf_get 0 1 16 else cf_stuck)))))
 else
 (bif Nat.ble pc 20 then
  (bif Nat.ble pc 17 then
   (bif Nat.ble pc 16 then
    (bif Nat.beq pc 16 then cf_iload 1 17 else cf_stuck)
    else
    (bif Nat.beq pc 17 then cf_dup2 18 else cf_stuck))
   else
   (bif Nat.ble pc 18 then
    (bif Nat.beq pc 18 then cf_iald 19 else cf_stuck)
    else
    (bif Nat.ble pc 19 then
     (bif Nat.beq pc 19 then cf_aload 0 20 else cf_stuck)
     else
     (bif Nat.beq pc 20 then cf_get 0 1 23 else cf_stuck))))
  else
  (bif Nat.ble pc 24 then
   (bif Nat.ble pc 23 then
    (bif Nat.beq pc 23 then cf_iload 2 24 else cf_stuck)
    else
    (bif Nat.beq pc 24 then cf_iald 25 else cf_stuck))
   else
   (bif Nat.ble pc 25 then
    (bif Nat.beq pc 25 then cf_bin (fun x y => x ||| y) 26 else cf_stuck)
    else
    (bif Nat.ble pc 26 then
     (bif Nat.beq pc 26 then cf_iast 27 else cf_stuck)
     else
     (bif Nat.beq pc 27 then cf_vret else cf_stuck)))))
noncomputable def F_H_addParent : List cf_AV → cf_Wd → Option cf_Rs := cf_F T_H_addParent 3 none (cf_shV 1 2)
theorem r_H_addParent_0 {l1 l2 : Option cf_AV} {k : Nat} {st : List cf_AV} {w : cf_Wd} {Q : cf_Rs → Prop} : cf_wp T_H_addParent (0, [some (.inr k), l1, l2], st, w) Q ↔ cf_wp T_H_addParent (1, [some (.inr k), l1, l2], .inr k :: st, w) Q := cf_w1 rfl
theorem r_H_addParent_1 {l0 l1 l2 : Option cf_AV} {v : cf_AV} {st : List cf_AV} {w : cf_Wd} {Q : cf_Rs → Prop} : cf_wp T_H_addParent (1, [l0, l1, l2], v :: st, w) Q ↔ cf_wp T_H_addParent (2, [l0, l1, l2], v :: v :: st, w) Q := cf_w1 rfl
theorem r_H_addParent_2 {l0 l1 l2 : Option cf_AV} {st : List cf_AV} {w : cf_Wd} {Q : cf_Rs → Prop} : cf_wp T_H_addParent (2, [l0, l1, l2], .inr 1 :: st, w) Q ↔ cf_wp T_H_addParent (5, [l0, l1, l2], .inl (w 1 3) :: st, w) Q := cf_w1 rfl
theorem r_H_addParent_5 {l0 l1 l2 : Option cf_AV} {st : List cf_AV} {w : cf_Wd} {Q : cf_Rs → Prop} : cf_wp T_H_addParent (5, [l0, l1, l2], st, w) Q ↔ cf_wp T_H_addParent (6, [l0, l1, l2], .inl 1 :: st, w) Q := cf_w1 rfl
theorem r_H_addParent_6 {l0 l1 : Option cf_AV} {x : Int32} {st : List cf_AV} {w : cf_Wd} {Q : cf_Rs → Prop} : cf_wp T_H_addParent (6, [l0, l1, some (.inl x)], st, w) Q ↔ cf_wp T_H_addParent (7, [l0, l1, some (.inl x)], .inl x :: st, w) Q := cf_w1 rfl
theorem r_H_addParent_7 {l0 l1 l2 : Option cf_AV} {x y : Int32} {st : List cf_AV} {w : cf_Wd} {Q : cf_Rs → Prop} : cf_wp T_H_addParent (7, [l0, l1, l2], .inl y :: .inl x :: st, w) Q ↔ cf_wp T_H_addParent (8, [l0, l1, l2], .inl (x <<< (y &&& 31)) :: st, w) Q := cf_w1 rfl
theorem r_H_addParent_8 {l0 l1 l2 : Option cf_AV} {x y : Int32} {st : List cf_AV} {w : cf_Wd} {Q : cf_Rs → Prop} : cf_wp T_H_addParent (8, [l0, l1, l2], .inl y :: .inl x :: st, w) Q ↔ cf_wp T_H_addParent (9, [l0, l1, l2], .inl (x ||| y) :: st, w) Q := cf_w1 rfl
theorem r_H_addParent_9 {l0 l1 l2 : Option cf_AV} {x : Int32} {st : List cf_AV} {w : cf_Wd} {Q : cf_Rs → Prop} : cf_wp T_H_addParent (9, [l0, l1, l2], .inl x :: .inr 1 :: st, w) Q ↔ cf_wp T_H_addParent (12, [l0, l1, l2], st, (cf_wa w 1 (upd (w 1) 3 x))) Q := cf_w1 rfl
theorem r_H_addParent_12 {l1 l2 : Option cf_AV} {k : Nat} {st : List cf_AV} {w : cf_Wd} {Q : cf_Rs → Prop} : cf_wp T_H_addParent (12, [some (.inr k), l1, l2], st, w) Q ↔ cf_wp T_H_addParent (13, [some (.inr k), l1, l2], .inr k :: st, w) Q := cf_w1 rfl
theorem r_H_addParent_13 {l0 l1 l2 : Option cf_AV} {st : List cf_AV} {w : cf_Wd} {Q : cf_Rs → Prop} : cf_wp T_H_addParent (13, [l0, l1, l2], .inr 1 :: st, w) Q ↔ cf_wp T_H_addParent (16, [l0, l1, l2], .inr 3 :: st, w) Q := cf_w1 rfl
theorem r_H_addParent_16 {l0 l2 : Option cf_AV} {x : Int32} {st : List cf_AV} {w : cf_Wd} {Q : cf_Rs → Prop} : cf_wp T_H_addParent (16, [l0, some (.inl x), l2], st, w) Q ↔ cf_wp T_H_addParent (17, [l0, some (.inl x), l2], .inl x :: st, w) Q := cf_w1 rfl
theorem r_H_addParent_17 {l0 l1 l2 : Option cf_AV} {v u : cf_AV} {st : List cf_AV} {w : cf_Wd} {Q : cf_Rs → Prop} : cf_wp T_H_addParent (17, [l0, l1, l2], v :: u :: st, w) Q ↔ cf_wp T_H_addParent (18, [l0, l1, l2], v :: u :: v :: u :: st, w) Q := cf_w1 rfl
theorem r_H_addParent_18 {l0 l1 l2 : Option cf_AV} {i : Int32} {st : List cf_AV} {w : cf_Wd} {Q : cf_Rs → Prop} : cf_wp T_H_addParent (18, [l0, l1, l2], .inl i :: .inr 3 :: st, w) Q ↔ (cf_in i 14 = true ∧ cf_wp T_H_addParent (19, [l0, l1, l2], .inl (w 3 i.toNatClampNeg) :: st, w) Q) := cf_wg rfl
theorem r_H_addParent_19 {l1 l2 : Option cf_AV} {k : Nat} {st : List cf_AV} {w : cf_Wd} {Q : cf_Rs → Prop} : cf_wp T_H_addParent (19, [some (.inr k), l1, l2], st, w) Q ↔ cf_wp T_H_addParent (20, [some (.inr k), l1, l2], .inr k :: st, w) Q := cf_w1 rfl
theorem r_H_addParent_20 {l0 l1 l2 : Option cf_AV} {st : List cf_AV} {w : cf_Wd} {Q : cf_Rs → Prop} : cf_wp T_H_addParent (20, [l0, l1, l2], .inr 1 :: st, w) Q ↔ cf_wp T_H_addParent (23, [l0, l1, l2], .inr 3 :: st, w) Q := cf_w1 rfl
theorem r_H_addParent_23 {l0 l1 : Option cf_AV} {x : Int32} {st : List cf_AV} {w : cf_Wd} {Q : cf_Rs → Prop} : cf_wp T_H_addParent (23, [l0, l1, some (.inl x)], st, w) Q ↔ cf_wp T_H_addParent (24, [l0, l1, some (.inl x)], .inl x :: st, w) Q := cf_w1 rfl
theorem r_H_addParent_24 {l0 l1 l2 : Option cf_AV} {i : Int32} {st : List cf_AV} {w : cf_Wd} {Q : cf_Rs → Prop} : cf_wp T_H_addParent (24, [l0, l1, l2], .inl i :: .inr 3 :: st, w) Q ↔ (cf_in i 14 = true ∧ cf_wp T_H_addParent (25, [l0, l1, l2], .inl (w 3 i.toNatClampNeg) :: st, w) Q) := cf_wg rfl
theorem r_H_addParent_25 {l0 l1 l2 : Option cf_AV} {x y : Int32} {st : List cf_AV} {w : cf_Wd} {Q : cf_Rs → Prop} : cf_wp T_H_addParent (25, [l0, l1, l2], .inl y :: .inl x :: st, w) Q ↔ cf_wp T_H_addParent (26, [l0, l1, l2], .inl (x ||| y) :: st, w) Q := cf_w1 rfl
theorem r_H_addParent_26 {l0 l1 l2 : Option cf_AV} {x i : Int32} {st : List cf_AV} {w : cf_Wd} {Q : cf_Rs → Prop} : cf_wp T_H_addParent (26, [l0, l1, l2], .inl x :: .inl i :: .inr 3 :: st, w) Q ↔ (cf_in i 14 = true ∧ cf_wp T_H_addParent (27, [l0, l1, l2], st, (cf_wa w 3 (upd (w 3) i.toNatClampNeg x))) Q) := cf_wg rfl
theorem r_H_addParent_27 {l0 l1 l2 : Option cf_AV} {w : cf_Wd} {P : cf_Wd → Prop} : cf_wp T_H_addParent (27, [l0, l1, l2], [], w) (cf_qv P) ↔ P w := Iff.trans (cf_wr (q := (none, w)) rfl) Iff.rfl
theorem e_H_addParent {a1 a2 : Int32} {w : cf_Wd} {P : cf_Wd → Prop} (h : cf_wp T_H_addParent (0, [some (.inr 1), some (.inl a1), some (.inl a2)], [], w) (cf_qv P)) : ∃ w1, F_H_addParent [.inr 1, .inl a1, .inl a2] w = some (none, w1) ∧ P w1 := cf_ev rfl (Nat.le_of_ble_eq_true rfl) h
noncomputable def T_H_add (pc : Nat) : cf_Rw := bif Nat.ble pc 33 then
 (bif Nat.ble pc 19 then
  (bif Nat.ble pc 7 then
   (bif Nat.ble pc 4 then
    (bif Nat.ble pc 0 then
     (bif Nat.beq pc 0 then cf_aload 0 1 else cf_stuck)
     else
     (bif Nat.ble pc 1 then
      (bif Nat.beq pc 1 then cf_get 0 4 4 else cf_stuck)
      else
      (bif Nat.beq pc 4 then cf_istore 3 5 else cf_stuck)))
    else
    (bif Nat.ble pc 5 then
     (bif Nat.beq pc 5 then cf_aload 0 6 else cf_stuck)
     else
     (bif Nat.ble pc 6 then
      (bif Nat.beq pc 6 then cf_dup 7 else cf_stuck)
      else
      (bif Nat.beq pc 7 then cf_get 0 4 10 else cf_stuck))))
   else
   (bif Nat.ble pc 12 then
    (bif Nat.ble pc 10 then
     (bif Nat.beq pc 10 then cf_const 1 11 else cf_stuck)
     else
     (bif Nat.ble pc 11 then
      (bif Nat.beq pc 11 then cf_bin (fun x y => x + y) 12 else cf_stuck)
      else
      (bif Nat.beq pc 12 then cf_put 0 4 15 else cf_stuck)))
    else
    (bif Nat.ble pc 15 then
     (bif Nat.beq pc 15 then cf_aload 0 16 else cf_stuck)
     else
     (bif Nat.ble pc 16 then
      (bif Nat.beq pc 16 then cf_get 0 0 19 else cf_stuck)
      else
      (bif Nat.beq pc 19 then cf_iload 3 20 else cf_stuck)))))
  else
  (bif Nat.ble pc 27 then
   (bif Nat.ble pc 22 then
    (bif Nat.ble pc 20 then
     (bif Nat.beq pc 20 then cf_iload 1 21 else cf_stuck)
     else
     (bif Nat.ble pc 21 then
      (bif Nat.beq pc 21 then cf_iast 22 else cf_stuck)
      else
      (bif Nat.beq pc 22 then cf_aload 0 23 else cf_stuck)))
    else
    (bif Nat.ble pc 23 then
     (bif Nat.beq pc 23 then cf_get 0 1 26 else cf_stuck)
     else
     (bif Nat.ble pc 26 then
      (bif Nat.beq pc 26 then cf_iload 3 27 else cf_stuck)
      else
      (bif Nat.beq pc 27 then cf_const 1 28 else cf_stuck))))
   else
   (bif Nat.ble pc 30 then
    (bif Nat.ble pc 28 then
     (bif Nat.beq pc 28 then cf_iload 3 29 else cf_stuck)
     else
     (bif Nat.ble pc 29 then
      (bif Nat.beq pc 29 then cf_bin (fun x y => x <<< (y &&& 31)) 30 else cf_stuck)
      else
      (bif Nat.beq pc 30 then cf_iast 31 else cf_stuck)))
    else
    (bif Nat.ble pc 31 then
     (bif Nat.beq pc 31 then cf_iload 1 32 else cf_stuck)
     else
     (bif Nat.ble pc 32 then
      (bif Nat.beq pc 32 then cf_const (-1) 33 else cf_stuck)
      else
      (bif Nat.beq pc 33 then cf_iceq 63 36 else cf_stuck))))))
 else
 (bif Nat.ble pc 54 then
  (bif Nat.ble pc 44 then
   (bif Nat.ble pc 40 then
    (bif Nat.ble pc 36 then
     (bif Nat.beq pc 36 then cf_aload 0 37 else cf_stuck)
     else
     (bif Nat.ble pc 37 then
      (bif Nat.beq pc 37 then cf_get 0 2 40 else cf_stuck)
      else
      (bif Nat.beq pc 40 then cf_iload 1 41 else cf_stuck)))
    else
    (bif Nat.ble pc 41 then
     (bif Nat.beq pc 41 then cf_const 8 43 else cf_stuck)
     else
     (bif Nat.ble pc 43 then
      (bif Nat.beq pc 43 then cf_bin (fun x y => x * y) 44 else cf_stuck)
      else
      (bif Nat.beq pc 44 then cf_aload 0 45 else cf_stuck))))
   else
   (bif Nat.ble pc 49 then
    (bif Nat.ble pc 45 then
     (bif Nat.beq pc 45 then cf_get 0 2 48 else cf_stuck)
     else
     (bif Nat.ble pc 48 then
      (bif Nat.beq pc 48 then cf_iload 3 49 else cf_stuck)
      else
      (bif Nat.beq pc 49 then cf_const 8 51 else cf_stuck)))
    else
    (bif Nat.ble pc 51 then
     (bif Nat.beq pc 51 then cf_bin (fun x y => x * y) 52 else cf_stuck)
     else
     (bif Nat.ble pc 52 then
      (bif Nat.beq pc 52 then cf_const 8 54 else cf_stuck)
      else
      (bif Nat.beq pc 54 then cf_cpy 57 else cf_stuck)))))
  else
  (bif Nat.ble pc 64 then
   (bif Nat.ble pc 59 then
    (bif Nat.ble pc 57 then
     (bif Nat.beq pc 57 then cf_aload 0 58 else cf_stuck)
     else
     (bif Nat.ble pc 58 then
      (bif Nat.beq pc 58 then cf_iload 3 59 else cf_stuck)
      else
      (bif Nat.beq pc 59 then cf_iload 1 60 else cf_stuck)))
    else
    (bif Nat.ble pc 60 then
     (bif Nat.beq pc 60 then cf_call 3 F_H_addParent 63 else cf_stuck)
     else
     (bif Nat.ble pc 63 then
      (bif Nat.beq pc 63 then cf_iload 2 64 else cf_stuck)
      else
      (bif Nat.beq pc 64 then cf_const (-1) 65 else cf_stuck))))
   else
   (bif Nat.ble pc 69 then
    (bif Nat.ble pc 65 then
     (bif Nat.beq pc 65 then cf_iceq 74 68 else cf_stuck)
     else
     (bif Nat.ble pc 68 then
      (bif Nat.beq pc 68 then cf_aload 0 69 else cf_stuck)
      else
      (bif Nat.beq pc 69 then cf_iload 3 70 else cf_stuck)))
    else
    (bif Nat.ble pc 71 then
     (bif Nat.ble pc 70 then
      (bif Nat.beq pc 70 then cf_iload 2 71 else cf_stuck)
      else
      (bif Nat.beq pc 71 then cf_call 3 F_H_addParent 74 else cf_stuck))
     else
     (bif Nat.ble pc 74 then
      (bif Nat.beq pc 74 then cf_iload 3 75 else cf_stuck)
      else
      (bif Nat.beq pc 75 then cf_iret else cf_stuck))))))
noncomputable def F_H_add : List cf_AV → cf_Wd → Option cf_Rs := cf_F T_H_add 4 (some .int) (cf_shV 1 2)
theorem r_H_add_0 {l1 l2 l3 : Option cf_AV} {k : Nat} {st : List cf_AV} {w : cf_Wd} {Q : cf_Rs → Prop} : cf_wp T_H_add (0, [some (.inr k), l1, l2, l3], st, w) Q ↔ cf_wp T_H_add (1, [some (.inr k), l1, l2, l3], .inr k :: st, w) Q := cf_w1 rfl
theorem r_H_add_1 {l0 l1 l2 l3 : Option cf_AV} {st : List cf_AV} {w : cf_Wd} {Q : cf_Rs → Prop} : cf_wp T_H_add (1, [l0, l1, l2, l3], .inr 1 :: st, w) Q ↔ cf_wp T_H_add (4, [l0, l1, l2, l3], .inl (w 1 4) :: st, w) Q := cf_w1 rfl
theorem r_H_add_4 {l0 l1 l2 l3 : Option cf_AV} {x : Int32} {st : List cf_AV} {w : cf_Wd} {Q : cf_Rs → Prop} : cf_wp T_H_add (4, [l0, l1, l2, l3], .inl x :: st, w) Q ↔ cf_wp T_H_add (5, [l0, l1, l2, some (.inl x)], st, w) Q := cf_w1 rfl
theorem r_H_add_5 {l1 l2 l3 : Option cf_AV} {k : Nat} {st : List cf_AV} {w : cf_Wd} {Q : cf_Rs → Prop} : cf_wp T_H_add (5, [some (.inr k), l1, l2, l3], st, w) Q ↔ cf_wp T_H_add (6, [some (.inr k), l1, l2, l3], .inr k :: st, w) Q := cf_w1 rfl
theorem r_H_add_6 {l0 l1 l2 l3 : Option cf_AV} {v : cf_AV} {st : List cf_AV} {w : cf_Wd} {Q : cf_Rs → Prop} : cf_wp T_H_add (6, [l0, l1, l2, l3], v :: st, w) Q ↔ cf_wp T_H_add (7, [l0, l1, l2, l3], v :: v :: st, w) Q := cf_w1 rfl
theorem r_H_add_7 {l0 l1 l2 l3 : Option cf_AV} {st : List cf_AV} {w : cf_Wd} {Q : cf_Rs → Prop} : cf_wp T_H_add (7, [l0, l1, l2, l3], .inr 1 :: st, w) Q ↔ cf_wp T_H_add (10, [l0, l1, l2, l3], .inl (w 1 4) :: st, w) Q := cf_w1 rfl
theorem r_H_add_10 {l0 l1 l2 l3 : Option cf_AV} {st : List cf_AV} {w : cf_Wd} {Q : cf_Rs → Prop} : cf_wp T_H_add (10, [l0, l1, l2, l3], st, w) Q ↔ cf_wp T_H_add (11, [l0, l1, l2, l3], .inl 1 :: st, w) Q := cf_w1 rfl
theorem r_H_add_11 {l0 l1 l2 l3 : Option cf_AV} {x y : Int32} {st : List cf_AV} {w : cf_Wd} {Q : cf_Rs → Prop} : cf_wp T_H_add (11, [l0, l1, l2, l3], .inl y :: .inl x :: st, w) Q ↔ cf_wp T_H_add (12, [l0, l1, l2, l3], .inl (x + y) :: st, w) Q := cf_w1 rfl
theorem r_H_add_12 {l0 l1 l2 l3 : Option cf_AV} {x : Int32} {st : List cf_AV} {w : cf_Wd} {Q : cf_Rs → Prop} : cf_wp T_H_add (12, [l0, l1, l2, l3], .inl x :: .inr 1 :: st, w) Q ↔ cf_wp T_H_add (15, [l0, l1, l2, l3], st, (cf_wa w 1 (upd (w 1) 4 x))) Q := cf_w1 rfl
theorem r_H_add_15 {l1 l2 l3 : Option cf_AV} {k : Nat} {st : List cf_AV} {w : cf_Wd} {Q : cf_Rs → Prop} : cf_wp T_H_add (15, [some (.inr k), l1, l2, l3], st, w) Q ↔ cf_wp T_H_add (16, [some (.inr k), l1, l2, l3], .inr k :: st, w) Q := cf_w1 rfl
theorem r_H_add_16 {l0 l1 l2 l3 : Option cf_AV} {st : List cf_AV} {w : cf_Wd} {Q : cf_Rs → Prop} : cf_wp T_H_add (16, [l0, l1, l2, l3], .inr 1 :: st, w) Q ↔ cf_wp T_H_add (19, [l0, l1, l2, l3], .inr 2 :: st, w) Q := cf_w1 rfl
theorem r_H_add_19 {l0 l1 l2 : Option cf_AV} {x : Int32} {st : List cf_AV} {w : cf_Wd} {Q : cf_Rs → Prop} : cf_wp T_H_add (19, [l0, l1, l2, some (.inl x)], st, w) Q ↔ cf_wp T_H_add (20, [l0, l1, l2, some (.inl x)], .inl x :: st, w) Q := cf_w1 rfl
theorem r_H_add_20 {l0 l2 l3 : Option cf_AV} {x : Int32} {st : List cf_AV} {w : cf_Wd} {Q : cf_Rs → Prop} : cf_wp T_H_add (20, [l0, some (.inl x), l2, l3], st, w) Q ↔ cf_wp T_H_add (21, [l0, some (.inl x), l2, l3], .inl x :: st, w) Q := cf_w1 rfl
theorem r_H_add_21 {l0 l1 l2 l3 : Option cf_AV} {x i : Int32} {st : List cf_AV} {w : cf_Wd} {Q : cf_Rs → Prop} : cf_wp T_H_add (21, [l0, l1, l2, l3], .inl x :: .inl i :: .inr 2 :: st, w) Q ↔ (cf_in i 14 = true ∧ cf_wp T_H_add (22, [l0, l1, l2, l3], st, (cf_wa w 2 (upd (w 2) i.toNatClampNeg x))) Q) := cf_wg rfl
theorem r_H_add_22 {l1 l2 l3 : Option cf_AV} {k : Nat} {st : List cf_AV} {w : cf_Wd} {Q : cf_Rs → Prop} : cf_wp T_H_add (22, [some (.inr k), l1, l2, l3], st, w) Q ↔ cf_wp T_H_add (23, [some (.inr k), l1, l2, l3], .inr k :: st, w) Q := cf_w1 rfl
theorem r_H_add_23 {l0 l1 l2 l3 : Option cf_AV} {st : List cf_AV} {w : cf_Wd} {Q : cf_Rs → Prop} : cf_wp T_H_add (23, [l0, l1, l2, l3], .inr 1 :: st, w) Q ↔ cf_wp T_H_add (26, [l0, l1, l2, l3], .inr 3 :: st, w) Q := cf_w1 rfl
theorem r_H_add_26 {l0 l1 l2 : Option cf_AV} {x : Int32} {st : List cf_AV} {w : cf_Wd} {Q : cf_Rs → Prop} : cf_wp T_H_add (26, [l0, l1, l2, some (.inl x)], st, w) Q ↔ cf_wp T_H_add (27, [l0, l1, l2, some (.inl x)], .inl x :: st, w) Q := cf_w1 rfl
theorem r_H_add_27 {l0 l1 l2 l3 : Option cf_AV} {st : List cf_AV} {w : cf_Wd} {Q : cf_Rs → Prop} : cf_wp T_H_add (27, [l0, l1, l2, l3], st, w) Q ↔ cf_wp T_H_add (28, [l0, l1, l2, l3], .inl 1 :: st, w) Q := cf_w1 rfl
theorem r_H_add_28 {l0 l1 l2 : Option cf_AV} {x : Int32} {st : List cf_AV} {w : cf_Wd} {Q : cf_Rs → Prop} : cf_wp T_H_add (28, [l0, l1, l2, some (.inl x)], st, w) Q ↔ cf_wp T_H_add (29, [l0, l1, l2, some (.inl x)], .inl x :: st, w) Q := cf_w1 rfl
theorem r_H_add_29 {l0 l1 l2 l3 : Option cf_AV} {x y : Int32} {st : List cf_AV} {w : cf_Wd} {Q : cf_Rs → Prop} : cf_wp T_H_add (29, [l0, l1, l2, l3], .inl y :: .inl x :: st, w) Q ↔ cf_wp T_H_add (30, [l0, l1, l2, l3], .inl (x <<< (y &&& 31)) :: st, w) Q := cf_w1 rfl
theorem r_H_add_30 {l0 l1 l2 l3 : Option cf_AV} {x i : Int32} {st : List cf_AV} {w : cf_Wd} {Q : cf_Rs → Prop} : cf_wp T_H_add (30, [l0, l1, l2, l3], .inl x :: .inl i :: .inr 3 :: st, w) Q ↔ (cf_in i 14 = true ∧ cf_wp T_H_add (31, [l0, l1, l2, l3], st, (cf_wa w 3 (upd (w 3) i.toNatClampNeg x))) Q) := cf_wg rfl
theorem r_H_add_31 {l0 l2 l3 : Option cf_AV} {x : Int32} {st : List cf_AV} {w : cf_Wd} {Q : cf_Rs → Prop} : cf_wp T_H_add (31, [l0, some (.inl x), l2, l3], st, w) Q ↔ cf_wp T_H_add (32, [l0, some (.inl x), l2, l3], .inl x :: st, w) Q := cf_w1 rfl
theorem r_H_add_32 {l0 l1 l2 l3 : Option cf_AV} {st : List cf_AV} {w : cf_Wd} {Q : cf_Rs → Prop} : cf_wp T_H_add (32, [l0, l1, l2, l3], st, w) Q ↔ cf_wp T_H_add (33, [l0, l1, l2, l3], .inl (-1) :: st, w) Q := cf_w1 rfl
theorem r_H_add_33 {l0 l1 l2 l3 : Option cf_AV} {x y : Int32} {st : List cf_AV} {w : cf_Wd} {Q : cf_Rs → Prop} : cf_wp T_H_add (33, [l0, l1, l2, l3], .inl y :: .inl x :: st, w) Q ↔ (if x = y then cf_wp T_H_add (63, [l0, l1, l2, l3], st, w) Q else cf_wp T_H_add (36, [l0, l1, l2, l3], st, w) Q) := cf_wi rfl
theorem r_H_add_36 {l1 l2 l3 : Option cf_AV} {k : Nat} {st : List cf_AV} {w : cf_Wd} {Q : cf_Rs → Prop} : cf_wp T_H_add (36, [some (.inr k), l1, l2, l3], st, w) Q ↔ cf_wp T_H_add (37, [some (.inr k), l1, l2, l3], .inr k :: st, w) Q := cf_w1 rfl
theorem r_H_add_37 {l0 l1 l2 l3 : Option cf_AV} {st : List cf_AV} {w : cf_Wd} {Q : cf_Rs → Prop} : cf_wp T_H_add (37, [l0, l1, l2, l3], .inr 1 :: st, w) Q ↔ cf_wp T_H_add (40, [l0, l1, l2, l3], .inr 4 :: st, w) Q := cf_w1 rfl
theorem r_H_add_40 {l0 l2 l3 : Option cf_AV} {x : Int32} {st : List cf_AV} {w : cf_Wd} {Q : cf_Rs → Prop} : cf_wp T_H_add (40, [l0, some (.inl x), l2, l3], st, w) Q ↔ cf_wp T_H_add (41, [l0, some (.inl x), l2, l3], .inl x :: st, w) Q := cf_w1 rfl
theorem r_H_add_41 {l0 l1 l2 l3 : Option cf_AV} {st : List cf_AV} {w : cf_Wd} {Q : cf_Rs → Prop} : cf_wp T_H_add (41, [l0, l1, l2, l3], st, w) Q ↔ cf_wp T_H_add (43, [l0, l1, l2, l3], .inl 8 :: st, w) Q := cf_w1 rfl
theorem r_H_add_43 {l0 l1 l2 l3 : Option cf_AV} {x y : Int32} {st : List cf_AV} {w : cf_Wd} {Q : cf_Rs → Prop} : cf_wp T_H_add (43, [l0, l1, l2, l3], .inl y :: .inl x :: st, w) Q ↔ cf_wp T_H_add (44, [l0, l1, l2, l3], .inl (x * y) :: st, w) Q := cf_w1 rfl
theorem r_H_add_44 {l1 l2 l3 : Option cf_AV} {k : Nat} {st : List cf_AV} {w : cf_Wd} {Q : cf_Rs → Prop} : cf_wp T_H_add (44, [some (.inr k), l1, l2, l3], st, w) Q ↔ cf_wp T_H_add (45, [some (.inr k), l1, l2, l3], .inr k :: st, w) Q := cf_w1 rfl
theorem r_H_add_45 {l0 l1 l2 l3 : Option cf_AV} {st : List cf_AV} {w : cf_Wd} {Q : cf_Rs → Prop} : cf_wp T_H_add (45, [l0, l1, l2, l3], .inr 1 :: st, w) Q ↔ cf_wp T_H_add (48, [l0, l1, l2, l3], .inr 4 :: st, w) Q := cf_w1 rfl
theorem r_H_add_48 {l0 l1 l2 : Option cf_AV} {x : Int32} {st : List cf_AV} {w : cf_Wd} {Q : cf_Rs → Prop} : cf_wp T_H_add (48, [l0, l1, l2, some (.inl x)], st, w) Q ↔ cf_wp T_H_add (49, [l0, l1, l2, some (.inl x)], .inl x :: st, w) Q := cf_w1 rfl
theorem r_H_add_49 {l0 l1 l2 l3 : Option cf_AV} {st : List cf_AV} {w : cf_Wd} {Q : cf_Rs → Prop} : cf_wp T_H_add (49, [l0, l1, l2, l3], st, w) Q ↔ cf_wp T_H_add (51, [l0, l1, l2, l3], .inl 8 :: st, w) Q := cf_w1 rfl
theorem r_H_add_51 {l0 l1 l2 l3 : Option cf_AV} {x y : Int32} {st : List cf_AV} {w : cf_Wd} {Q : cf_Rs → Prop} : cf_wp T_H_add (51, [l0, l1, l2, l3], .inl y :: .inl x :: st, w) Q ↔ cf_wp T_H_add (52, [l0, l1, l2, l3], .inl (x * y) :: st, w) Q := cf_w1 rfl
theorem r_H_add_52 {l0 l1 l2 l3 : Option cf_AV} {st : List cf_AV} {w : cf_Wd} {Q : cf_Rs → Prop} : cf_wp T_H_add (52, [l0, l1, l2, l3], st, w) Q ↔ cf_wp T_H_add (54, [l0, l1, l2, l3], .inl 8 :: st, w) Q := cf_w1 rfl
theorem r_H_add_54 {l0 l1 l2 l3 : Option cf_AV} {n dp sp : Int32} {w : cf_Wd} {Q : cf_Rs → Prop} : cf_wp T_H_add (54, [l0, l1, l2, l3], [.inl n, .inl dp, .inr 4, .inl sp, .inr 4], w) Q ↔ ((decide (0 ≤ n.toInt) && decide (0 ≤ dp.toInt) && decide (0 ≤ sp.toInt) && decide (sp.toInt + n.toInt ≤ ((112 : Nat) : Int)) && decide (dp.toInt + n.toInt ≤ ((112 : Nat) : Int)) && true && true && true) = true ∧ cf_wp T_H_add (57, [l0, l1, l2, l3], [], (cf_wa w 4 (va_cpy (w 4) (w 4) sp.toNatClampNeg dp.toNatClampNeg n.toNatClampNeg))) Q) := cf_wg rfl
theorem r_H_add_57 {l1 l2 l3 : Option cf_AV} {k : Nat} {st : List cf_AV} {w : cf_Wd} {Q : cf_Rs → Prop} : cf_wp T_H_add (57, [some (.inr k), l1, l2, l3], st, w) Q ↔ cf_wp T_H_add (58, [some (.inr k), l1, l2, l3], .inr k :: st, w) Q := cf_w1 rfl
theorem r_H_add_58 {l0 l1 l2 : Option cf_AV} {x : Int32} {st : List cf_AV} {w : cf_Wd} {Q : cf_Rs → Prop} : cf_wp T_H_add (58, [l0, l1, l2, some (.inl x)], st, w) Q ↔ cf_wp T_H_add (59, [l0, l1, l2, some (.inl x)], .inl x :: st, w) Q := cf_w1 rfl
theorem r_H_add_59 {l0 l2 l3 : Option cf_AV} {x : Int32} {st : List cf_AV} {w : cf_Wd} {Q : cf_Rs → Prop} : cf_wp T_H_add (59, [l0, some (.inl x), l2, l3], st, w) Q ↔ cf_wp T_H_add (60, [l0, some (.inl x), l2, l3], .inl x :: st, w) Q := cf_w1 rfl
theorem r_H_add_60 {l0 l1 l2 l3 : Option cf_AV} {a2 a1 : Int32} {w : cf_Wd} {Q : cf_Rs → Prop} : cf_wp T_H_add (60, [l0, l1, l2, l3], [.inl a2, .inl a1, .inr 1], w) Q ↔ ∃ w1, F_H_addParent [.inr 1, .inl a1, .inl a2] w = some (none, w1) ∧ cf_wp T_H_add (63, [l0, l1, l2, l3], [], w1) Q := cf_wcv (n := 3) (F := F_H_addParent) (nx := 63) rfl rfl cf_F_v
theorem c_H_add_60 {l0 l1 l2 l3 : Option cf_AV} {a2 a1 : Int32} {w1 : cf_Wd} {w : cf_Wd} {Q : cf_Rs → Prop} (hs : F_H_addParent [.inr 1, .inl a1, .inl a2] w = some (none, w1)) : cf_wp T_H_add (60, [l0, l1, l2, l3], [.inl a2, .inl a1, .inr 1], w) Q ↔ cf_wp T_H_add (63, [l0, l1, l2, l3], [], w1) Q := r_H_add_60.trans (cf_xv hs)
theorem r_H_add_63 {l0 l1 l3 : Option cf_AV} {x : Int32} {st : List cf_AV} {w : cf_Wd} {Q : cf_Rs → Prop} : cf_wp T_H_add (63, [l0, l1, some (.inl x), l3], st, w) Q ↔ cf_wp T_H_add (64, [l0, l1, some (.inl x), l3], .inl x :: st, w) Q := cf_w1 rfl
theorem r_H_add_64 {l0 l1 l2 l3 : Option cf_AV} {st : List cf_AV} {w : cf_Wd} {Q : cf_Rs → Prop} : cf_wp T_H_add (64, [l0, l1, l2, l3], st, w) Q ↔ cf_wp T_H_add (65, [l0, l1, l2, l3], .inl (-1) :: st, w) Q := cf_w1 rfl
theorem r_H_add_65 {l0 l1 l2 l3 : Option cf_AV} {x y : Int32} {st : List cf_AV} {w : cf_Wd} {Q : cf_Rs → Prop} : cf_wp T_H_add (65, [l0, l1, l2, l3], .inl y :: .inl x :: st, w) Q ↔ (if x = y then cf_wp T_H_add (74, [l0, l1, l2, l3], st, w) Q else cf_wp T_H_add (68, [l0, l1, l2, l3], st, w) Q) := cf_wi rfl
theorem r_H_add_68 {l1 l2 l3 : Option cf_AV} {k : Nat} {st : List cf_AV} {w : cf_Wd} {Q : cf_Rs → Prop} : cf_wp T_H_add (68, [some (.inr k), l1, l2, l3], st, w) Q ↔ cf_wp T_H_add (69, [some (.inr k), l1, l2, l3], .inr k :: st, w) Q := cf_w1 rfl
theorem r_H_add_69 {l0 l1 l2 : Option cf_AV} {x : Int32} {st : List cf_AV} {w : cf_Wd} {Q : cf_Rs → Prop} : cf_wp T_H_add (69, [l0, l1, l2, some (.inl x)], st, w) Q ↔ cf_wp T_H_add (70, [l0, l1, l2, some (.inl x)], .inl x :: st, w) Q := cf_w1 rfl
theorem r_H_add_70 {l0 l1 l3 : Option cf_AV} {x : Int32} {st : List cf_AV} {w : cf_Wd} {Q : cf_Rs → Prop} : cf_wp T_H_add (70, [l0, l1, some (.inl x), l3], st, w) Q ↔ cf_wp T_H_add (71, [l0, l1, some (.inl x), l3], .inl x :: st, w) Q := cf_w1 rfl
theorem r_H_add_71 {l0 l1 l2 l3 : Option cf_AV} {a2 a1 : Int32} {w : cf_Wd} {Q : cf_Rs → Prop} : cf_wp T_H_add (71, [l0, l1, l2, l3], [.inl a2, .inl a1, .inr 1], w) Q ↔ ∃ w1, F_H_addParent [.inr 1, .inl a1, .inl a2] w = some (none, w1) ∧ cf_wp T_H_add (74, [l0, l1, l2, l3], [], w1) Q := cf_wcv (n := 3) (F := F_H_addParent) (nx := 74) rfl rfl cf_F_v
theorem c_H_add_71 {l0 l1 l2 l3 : Option cf_AV} {a2 a1 : Int32} {w1 : cf_Wd} {w : cf_Wd} {Q : cf_Rs → Prop} (hs : F_H_addParent [.inr 1, .inl a1, .inl a2] w = some (none, w1)) : cf_wp T_H_add (71, [l0, l1, l2, l3], [.inl a2, .inl a1, .inr 1], w) Q ↔ cf_wp T_H_add (74, [l0, l1, l2, l3], [], w1) Q := r_H_add_71.trans (cf_xv hs)
theorem r_H_add_74 {l0 l1 l2 : Option cf_AV} {x : Int32} {st : List cf_AV} {w : cf_Wd} {Q : cf_Rs → Prop} : cf_wp T_H_add (74, [l0, l1, l2, some (.inl x)], st, w) Q ↔ cf_wp T_H_add (75, [l0, l1, l2, some (.inl x)], .inl x :: st, w) Q := cf_w1 rfl
theorem r_H_add_75 {l0 l1 l2 l3 : Option cf_AV} {x : Int32} {w : cf_Wd} {P : Int32 → cf_Wd → Prop} : cf_wp T_H_add (75, [l0, l1, l2, l3], [.inl x], w) (cf_qi P) ↔ P x w := Iff.trans (cf_wr (q := (some (.inl x), w)) rfl) Iff.rfl
theorem e_H_add {a1 a2 : Int32} {w : cf_Wd} {P : Int32 → cf_Wd → Prop} (h : cf_wp T_H_add (0, [some (.inr 1), some (.inl a1), some (.inl a2), none], [], w) (cf_qi P)) : ∃ x w1, F_H_add [.inr 1, .inl a1, .inl a2] w = some (some (.inl x), w1) ∧ P x w1 := cf_ei rfl (Nat.le_of_ble_eq_true rfl) h
noncomputable def T_C_commit (pc : Nat) : cf_Rw := bif Nat.ble pc 12 then
 (bif Nat.ble pc 4 then
  (bif Nat.ble pc 0 then
   (bif Nat.beq pc 0 then cf_aload 0 1 else cf_stuck)
   else
   (bif Nat.ble pc 1 then
    (bif Nat.beq pc 1 then cf_get 4 0 4 else cf_stuck)
    else
    (bif Nat.beq pc 4 then cf_iload 1 5 else cf_stuck)))
  else
  (bif Nat.ble pc 6 then
   (bif Nat.ble pc 5 then
    (bif Nat.beq pc 5 then cf_iload 2 6 else cf_stuck)
    else
    (bif Nat.beq pc 6 then cf_call 3 F_H_mayAdd 9 else cf_stuck))
   else
   (bif Nat.ble pc 9 then
    (bif Nat.beq pc 9 then cf_ifeq 24 12 else cf_stuck)
    else
    (bif Nat.beq pc 12 then cf_aload 0 13 else cf_stuck))))
 else
 (bif Nat.ble pc 17 then
  (bif Nat.ble pc 13 then
   (bif Nat.beq pc 13 then cf_get 4 0 16 else cf_stuck)
   else
   (bif Nat.ble pc 16 then
    (bif Nat.beq pc 16 then cf_iload 1 17 else cf_stuck)
    else
    (bif Nat.beq pc 17 then cf_iload 2 18 else cf_stuck)))
  else
  (bif Nat.ble pc 21 then
   (bif Nat.ble pc 18 then
    (bif Nat.beq pc 18 then cf_call 3 F_H_add 21 else cf_stuck)
    else
    (bif Nat.beq pc 21 then cf_goto 25 else cf_stuck))
   else
   (bif Nat.ble pc 24 then
    (bif Nat.beq pc 24 then cf_const (-1) 25 else cf_stuck)
    else
    (bif Nat.beq pc 25 then cf_iret else cf_stuck))))
noncomputable def F_C_commit : List cf_AV → cf_Wd → Option cf_Rs := cf_F T_C_commit 3 (some .int) (cf_shV 0 2)
theorem r_C_commit_0 {l1 l2 : Option cf_AV} {k : Nat} {st : List cf_AV} {w : cf_Wd} {Q : cf_Rs → Prop} : cf_wp T_C_commit (0, [some (.inr k), l1, l2], st, w) Q ↔ cf_wp T_C_commit (1, [some (.inr k), l1, l2], .inr k :: st, w) Q := cf_w1 rfl
theorem r_C_commit_1 {l0 l1 l2 : Option cf_AV} {st : List cf_AV} {w : cf_Wd} {Q : cf_Rs → Prop} : cf_wp T_C_commit (1, [l0, l1, l2], .inr 0 :: st, w) Q ↔ cf_wp T_C_commit (4, [l0, l1, l2], .inr 1 :: st, w) Q := cf_w1 rfl
theorem r_C_commit_4 {l0 l2 : Option cf_AV} {x : Int32} {st : List cf_AV} {w : cf_Wd} {Q : cf_Rs → Prop} : cf_wp T_C_commit (4, [l0, some (.inl x), l2], st, w) Q ↔ cf_wp T_C_commit (5, [l0, some (.inl x), l2], .inl x :: st, w) Q := cf_w1 rfl
theorem r_C_commit_5 {l0 l1 : Option cf_AV} {x : Int32} {st : List cf_AV} {w : cf_Wd} {Q : cf_Rs → Prop} : cf_wp T_C_commit (5, [l0, l1, some (.inl x)], st, w) Q ↔ cf_wp T_C_commit (6, [l0, l1, some (.inl x)], .inl x :: st, w) Q := cf_w1 rfl
theorem r_C_commit_6 {l0 l1 l2 : Option cf_AV} {a2 a1 : Int32} {w : cf_Wd} {Q : cf_Rs → Prop} : cf_wp T_C_commit (6, [l0, l1, l2], [.inl a2, .inl a1, .inr 1], w) Q ↔ ∃ x w1, F_H_mayAdd [.inr 1, .inl a1, .inl a2] w = some (some (.inl x), w1) ∧ cf_wp T_C_commit (9, [l0, l1, l2], [.inl x], w1) Q := cf_wci (n := 3) (F := F_H_mayAdd) (nx := 9) rfl rfl cf_F_b
theorem c_C_commit_6 {l0 l1 l2 : Option cf_AV} {a2 a1 : Int32} {x1 : Int32} {w1 : cf_Wd} {w : cf_Wd} {Q : cf_Rs → Prop} (hs : F_H_mayAdd [.inr 1, .inl a1, .inl a2] w = some (some (.inl x1), w1)) : cf_wp T_C_commit (6, [l0, l1, l2], [.inl a2, .inl a1, .inr 1], w) Q ↔ cf_wp T_C_commit (9, [l0, l1, l2], [.inl x1], w1) Q := r_C_commit_6.trans (cf_xi hs)
theorem r_C_commit_9 {l0 l1 l2 : Option cf_AV} {x : Int32} {st : List cf_AV} {w : cf_Wd} {Q : cf_Rs → Prop} : cf_wp T_C_commit (9, [l0, l1, l2], .inl x :: st, w) Q ↔ (if x = 0 then cf_wp T_C_commit (24, [l0, l1, l2], st, w) Q else cf_wp T_C_commit (12, [l0, l1, l2], st, w) Q) := cf_wi rfl
theorem r_C_commit_12 {l1 l2 : Option cf_AV} {k : Nat} {st : List cf_AV} {w : cf_Wd} {Q : cf_Rs → Prop} : cf_wp T_C_commit (12, [some (.inr k), l1, l2], st, w) Q ↔ cf_wp T_C_commit (13, [some (.inr k), l1, l2], .inr k :: st, w) Q := cf_w1 rfl
theorem r_C_commit_13 {l0 l1 l2 : Option cf_AV} {st : List cf_AV} {w : cf_Wd} {Q : cf_Rs → Prop} : cf_wp T_C_commit (13, [l0, l1, l2], .inr 0 :: st, w) Q ↔ cf_wp T_C_commit (16, [l0, l1, l2], .inr 1 :: st, w) Q := cf_w1 rfl
theorem r_C_commit_16 {l0 l2 : Option cf_AV} {x : Int32} {st : List cf_AV} {w : cf_Wd} {Q : cf_Rs → Prop} : cf_wp T_C_commit (16, [l0, some (.inl x), l2], st, w) Q ↔ cf_wp T_C_commit (17, [l0, some (.inl x), l2], .inl x :: st, w) Q := cf_w1 rfl
theorem r_C_commit_17 {l0 l1 : Option cf_AV} {x : Int32} {st : List cf_AV} {w : cf_Wd} {Q : cf_Rs → Prop} : cf_wp T_C_commit (17, [l0, l1, some (.inl x)], st, w) Q ↔ cf_wp T_C_commit (18, [l0, l1, some (.inl x)], .inl x :: st, w) Q := cf_w1 rfl
theorem r_C_commit_18 {l0 l1 l2 : Option cf_AV} {a2 a1 : Int32} {w : cf_Wd} {Q : cf_Rs → Prop} : cf_wp T_C_commit (18, [l0, l1, l2], [.inl a2, .inl a1, .inr 1], w) Q ↔ ∃ x w1, F_H_add [.inr 1, .inl a1, .inl a2] w = some (some (.inl x), w1) ∧ cf_wp T_C_commit (21, [l0, l1, l2], [.inl x], w1) Q := cf_wci (n := 3) (F := F_H_add) (nx := 21) rfl rfl cf_F_i
theorem c_C_commit_18 {l0 l1 l2 : Option cf_AV} {a2 a1 : Int32} {x1 : Int32} {w1 : cf_Wd} {w : cf_Wd} {Q : cf_Rs → Prop} (hs : F_H_add [.inr 1, .inl a1, .inl a2] w = some (some (.inl x1), w1)) : cf_wp T_C_commit (18, [l0, l1, l2], [.inl a2, .inl a1, .inr 1], w) Q ↔ cf_wp T_C_commit (21, [l0, l1, l2], [.inl x1], w1) Q := r_C_commit_18.trans (cf_xi hs)
theorem r_C_commit_21 {l0 l1 l2 : Option cf_AV} {st : List cf_AV} {w : cf_Wd} {Q : cf_Rs → Prop} : cf_wp T_C_commit (21, [l0, l1, l2], st, w) Q ↔ cf_wp T_C_commit (25, [l0, l1, l2], st, w) Q := cf_w1 rfl
theorem r_C_commit_24 {l0 l1 l2 : Option cf_AV} {st : List cf_AV} {w : cf_Wd} {Q : cf_Rs → Prop} : cf_wp T_C_commit (24, [l0, l1, l2], st, w) Q ↔ cf_wp T_C_commit (25, [l0, l1, l2], .inl (-1) :: st, w) Q := cf_w1 rfl
theorem r_C_commit_25 {l0 l1 l2 : Option cf_AV} {x : Int32} {w : cf_Wd} {P : Int32 → cf_Wd → Prop} : cf_wp T_C_commit (25, [l0, l1, l2], [.inl x], w) (cf_qi P) ↔ P x w := Iff.trans (cf_wr (q := (some (.inl x), w)) rfl) Iff.rfl
theorem e_C_commit {a1 a2 : Int32} {w : cf_Wd} {P : Int32 → cf_Wd → Prop} (h : cf_wp T_C_commit (0, [some (.inr 0), some (.inl a1), some (.inl a2)], [], w) (cf_qi P)) : ∃ x w1, F_C_commit [.inr 0, .inl a1, .inl a2] w = some (some (.inl x), w1) ∧ P x w1 := cf_ei rfl (Nat.le_of_ble_eq_true rfl) h
noncomputable def T_H_hasLine (pc : Nat) : cf_Rw := bif Nat.ble pc 9 then
 (bif Nat.ble pc 2 then
  (bif Nat.ble pc 0 then
   (bif Nat.beq pc 0 then cf_aload 0 1 else cf_stuck)
   else
   (bif Nat.ble pc 1 then
    (bif Nat.beq pc 1 then cf_iload 1 2 else cf_stuck)
    else
    (bif Nat.beq pc 2 then cf_call 2 F_H_has 5 else cf_stuck)))
  else
  (bif Nat.ble pc 5 then
   (bif Nat.beq pc 5 then cf_ifeq 22 8 else cf_stuck)
   else
   (bif Nat.ble pc 8 then
    (bif Nat.beq pc 8 then cf_iload 2 9 else cf_stuck)
    else
    (bif Nat.beq pc 9 then cf_iflt 22 12 else cf_stuck))))
 else
 (bif Nat.ble pc 15 then
  (bif Nat.ble pc 12 then
   (bif Nat.beq pc 12 then cf_iload 2 13 else cf_stuck)
   else
   (bif Nat.ble pc 13 then
    (bif Nat.beq pc 13 then cf_const 8 15 else cf_stuck)
    else
    (bif Nat.beq pc 15 then cf_icge 22 18 else cf_stuck)))
  else
  (bif Nat.ble pc 19 then
   (bif Nat.ble pc 18 then
    (bif Nat.beq pc 18 then cf_const 1 19 else cf_stuck)
    else
    (bif Nat.beq pc 19 then cf_goto 23 else cf_stuck))
   else
   (bif Nat.ble pc 22 then
    (bif Nat.beq pc 22 then cf_const 0 23 else cf_stuck)
    else
    (bif Nat.beq pc 23 then cf_iret else cf_stuck))))
noncomputable def F_H_hasLine : List cf_AV → cf_Wd → Option cf_Rs := cf_F T_H_hasLine 3 (some .boolean) (cf_shV 1 2)
theorem r_H_hasLine_0 {l1 l2 : Option cf_AV} {k : Nat} {st : List cf_AV} {w : cf_Wd} {Q : cf_Rs → Prop} : cf_wp T_H_hasLine (0, [some (.inr k), l1, l2], st, w) Q ↔ cf_wp T_H_hasLine (1, [some (.inr k), l1, l2], .inr k :: st, w) Q := cf_w1 rfl
theorem r_H_hasLine_1 {l0 l2 : Option cf_AV} {x : Int32} {st : List cf_AV} {w : cf_Wd} {Q : cf_Rs → Prop} : cf_wp T_H_hasLine (1, [l0, some (.inl x), l2], st, w) Q ↔ cf_wp T_H_hasLine (2, [l0, some (.inl x), l2], .inl x :: st, w) Q := cf_w1 rfl
theorem r_H_hasLine_2 {l0 l1 l2 : Option cf_AV} {a1 : Int32} {w : cf_Wd} {Q : cf_Rs → Prop} : cf_wp T_H_hasLine (2, [l0, l1, l2], [.inl a1, .inr 1], w) Q ↔ ∃ x w1, F_H_has [.inr 1, .inl a1] w = some (some (.inl x), w1) ∧ cf_wp T_H_hasLine (5, [l0, l1, l2], [.inl x], w1) Q := cf_wci (n := 2) (F := F_H_has) (nx := 5) rfl rfl cf_F_b
theorem c_H_hasLine_2 {l0 l1 l2 : Option cf_AV} {a1 : Int32} {x1 : Int32} {w1 : cf_Wd} {w : cf_Wd} {Q : cf_Rs → Prop} (hs : F_H_has [.inr 1, .inl a1] w = some (some (.inl x1), w1)) : cf_wp T_H_hasLine (2, [l0, l1, l2], [.inl a1, .inr 1], w) Q ↔ cf_wp T_H_hasLine (5, [l0, l1, l2], [.inl x1], w1) Q := r_H_hasLine_2.trans (cf_xi hs)
theorem r_H_hasLine_5 {l0 l1 l2 : Option cf_AV} {x : Int32} {st : List cf_AV} {w : cf_Wd} {Q : cf_Rs → Prop} : cf_wp T_H_hasLine (5, [l0, l1, l2], .inl x :: st, w) Q ↔ (if x = 0 then cf_wp T_H_hasLine (22, [l0, l1, l2], st, w) Q else cf_wp T_H_hasLine (8, [l0, l1, l2], st, w) Q) := cf_wi rfl
theorem r_H_hasLine_8 {l0 l1 : Option cf_AV} {x : Int32} {st : List cf_AV} {w : cf_Wd} {Q : cf_Rs → Prop} : cf_wp T_H_hasLine (8, [l0, l1, some (.inl x)], st, w) Q ↔ cf_wp T_H_hasLine (9, [l0, l1, some (.inl x)], .inl x :: st, w) Q := cf_w1 rfl
theorem r_H_hasLine_9 {l0 l1 l2 : Option cf_AV} {x : Int32} {st : List cf_AV} {w : cf_Wd} {Q : cf_Rs → Prop} : cf_wp T_H_hasLine (9, [l0, l1, l2], .inl x :: st, w) Q ↔ (if x < 0 then cf_wp T_H_hasLine (22, [l0, l1, l2], st, w) Q else cf_wp T_H_hasLine (12, [l0, l1, l2], st, w) Q) := cf_wi rfl
theorem r_H_hasLine_12 {l0 l1 : Option cf_AV} {x : Int32} {st : List cf_AV} {w : cf_Wd} {Q : cf_Rs → Prop} : cf_wp T_H_hasLine (12, [l0, l1, some (.inl x)], st, w) Q ↔ cf_wp T_H_hasLine (13, [l0, l1, some (.inl x)], .inl x :: st, w) Q := cf_w1 rfl
theorem r_H_hasLine_13 {l0 l1 l2 : Option cf_AV} {st : List cf_AV} {w : cf_Wd} {Q : cf_Rs → Prop} : cf_wp T_H_hasLine (13, [l0, l1, l2], st, w) Q ↔ cf_wp T_H_hasLine (15, [l0, l1, l2], .inl 8 :: st, w) Q := cf_w1 rfl
theorem r_H_hasLine_15 {l0 l1 l2 : Option cf_AV} {x y : Int32} {st : List cf_AV} {w : cf_Wd} {Q : cf_Rs → Prop} : cf_wp T_H_hasLine (15, [l0, l1, l2], .inl y :: .inl x :: st, w) Q ↔ (if y ≤ x then cf_wp T_H_hasLine (22, [l0, l1, l2], st, w) Q else cf_wp T_H_hasLine (18, [l0, l1, l2], st, w) Q) := cf_wi rfl
theorem r_H_hasLine_18 {l0 l1 l2 : Option cf_AV} {st : List cf_AV} {w : cf_Wd} {Q : cf_Rs → Prop} : cf_wp T_H_hasLine (18, [l0, l1, l2], st, w) Q ↔ cf_wp T_H_hasLine (19, [l0, l1, l2], .inl 1 :: st, w) Q := cf_w1 rfl
theorem r_H_hasLine_19 {l0 l1 l2 : Option cf_AV} {st : List cf_AV} {w : cf_Wd} {Q : cf_Rs → Prop} : cf_wp T_H_hasLine (19, [l0, l1, l2], st, w) Q ↔ cf_wp T_H_hasLine (23, [l0, l1, l2], st, w) Q := cf_w1 rfl
theorem r_H_hasLine_22 {l0 l1 l2 : Option cf_AV} {st : List cf_AV} {w : cf_Wd} {Q : cf_Rs → Prop} : cf_wp T_H_hasLine (22, [l0, l1, l2], st, w) Q ↔ cf_wp T_H_hasLine (23, [l0, l1, l2], .inl 0 :: st, w) Q := cf_w1 rfl
theorem r_H_hasLine_23 {l0 l1 l2 : Option cf_AV} {x : Int32} {w : cf_Wd} {P : Int32 → cf_Wd → Prop} : cf_wp T_H_hasLine (23, [l0, l1, l2], [.inl x], w) (cf_qb P) ↔ ((x = 0 ∨ x = 1) ∧ P x w) := Iff.trans (cf_wr (q := (some (.inl x), w)) rfl) Iff.rfl
theorem e_H_hasLine {a1 a2 : Int32} {w : cf_Wd} {P : Int32 → cf_Wd → Prop} (h : cf_wp T_H_hasLine (0, [some (.inr 1), some (.inl a1), some (.inl a2)], [], w) (cf_qb P)) : ∃ x w1, F_H_hasLine [.inr 1, .inl a1, .inl a2] w = some (some (.inl x), w1) ∧ P x w1 := cf_eb rfl (Nat.le_of_ble_eq_true rfl) h
noncomputable def T_H_isParent (pc : Nat) : cf_Rw := bif Nat.ble pc 6 then
 (bif Nat.ble pc 1 then
  (bif Nat.ble pc 0 then
   (bif Nat.beq pc 0 then cf_aload 0 1 else cf_stuck)
   else
   (bif Nat.beq pc 1 then cf_get 0 3 4 else cf_stuck))
  else
  (bif Nat.ble pc 4 then
   (bif Nat.beq pc 4 then cf_iload 1 5 else cf_stuck)
   else
   (bif Nat.ble pc 5 then
    (bif Nat.beq pc 5 then cf_bin (fun x y => x >>> (y &&& 31)) 6 else cf_stuck)
    else
    (bif Nat.beq pc 6 then cf_const 1 7 else cf_stuck))))
 else
 (bif Nat.ble pc 11 then
  (bif Nat.ble pc 7 then
   (bif Nat.beq pc 7 then cf_bin (fun x y => x &&& y) 8 else cf_stuck)
   else
   (bif Nat.ble pc 8 then
    (bif Nat.beq pc 8 then cf_ifeq 15 11 else cf_stuck)
    else
    (bif Nat.beq pc 11 then cf_const 1 12 else cf_stuck)))
  else
  (bif Nat.ble pc 12 then
   (bif Nat.beq pc 12 then cf_goto 16 else cf_stuck)
   else
   (bif Nat.ble pc 15 then
    (bif Nat.beq pc 15 then cf_const 0 16 else cf_stuck)
    else
    (bif Nat.beq pc 16 then cf_iret else cf_stuck))))
noncomputable def F_H_isParent : List cf_AV → cf_Wd → Option cf_Rs := cf_F T_H_isParent 2 (some .boolean) (cf_shV 1 1)
theorem r_H_isParent_0 {l1 : Option cf_AV} {k : Nat} {st : List cf_AV} {w : cf_Wd} {Q : cf_Rs → Prop} : cf_wp T_H_isParent (0, [some (.inr k), l1], st, w) Q ↔ cf_wp T_H_isParent (1, [some (.inr k), l1], .inr k :: st, w) Q := cf_w1 rfl
theorem r_H_isParent_1 {l0 l1 : Option cf_AV} {st : List cf_AV} {w : cf_Wd} {Q : cf_Rs → Prop} : cf_wp T_H_isParent (1, [l0, l1], .inr 1 :: st, w) Q ↔ cf_wp T_H_isParent (4, [l0, l1], .inl (w 1 3) :: st, w) Q := cf_w1 rfl
theorem r_H_isParent_4 {l0 : Option cf_AV} {x : Int32} {st : List cf_AV} {w : cf_Wd} {Q : cf_Rs → Prop} : cf_wp T_H_isParent (4, [l0, some (.inl x)], st, w) Q ↔ cf_wp T_H_isParent (5, [l0, some (.inl x)], .inl x :: st, w) Q := cf_w1 rfl
theorem r_H_isParent_5 {l0 l1 : Option cf_AV} {x y : Int32} {st : List cf_AV} {w : cf_Wd} {Q : cf_Rs → Prop} : cf_wp T_H_isParent (5, [l0, l1], .inl y :: .inl x :: st, w) Q ↔ cf_wp T_H_isParent (6, [l0, l1], .inl (x >>> (y &&& 31)) :: st, w) Q := cf_w1 rfl
theorem r_H_isParent_6 {l0 l1 : Option cf_AV} {st : List cf_AV} {w : cf_Wd} {Q : cf_Rs → Prop} : cf_wp T_H_isParent (6, [l0, l1], st, w) Q ↔ cf_wp T_H_isParent (7, [l0, l1], .inl 1 :: st, w) Q := cf_w1 rfl
theorem r_H_isParent_7 {l0 l1 : Option cf_AV} {x y : Int32} {st : List cf_AV} {w : cf_Wd} {Q : cf_Rs → Prop} : cf_wp T_H_isParent (7, [l0, l1], .inl y :: .inl x :: st, w) Q ↔ cf_wp T_H_isParent (8, [l0, l1], .inl (x &&& y) :: st, w) Q := cf_w1 rfl
theorem r_H_isParent_8 {l0 l1 : Option cf_AV} {x : Int32} {st : List cf_AV} {w : cf_Wd} {Q : cf_Rs → Prop} : cf_wp T_H_isParent (8, [l0, l1], .inl x :: st, w) Q ↔ (if x = 0 then cf_wp T_H_isParent (15, [l0, l1], st, w) Q else cf_wp T_H_isParent (11, [l0, l1], st, w) Q) := cf_wi rfl
theorem r_H_isParent_11 {l0 l1 : Option cf_AV} {st : List cf_AV} {w : cf_Wd} {Q : cf_Rs → Prop} : cf_wp T_H_isParent (11, [l0, l1], st, w) Q ↔ cf_wp T_H_isParent (12, [l0, l1], .inl 1 :: st, w) Q := cf_w1 rfl
theorem r_H_isParent_12 {l0 l1 : Option cf_AV} {st : List cf_AV} {w : cf_Wd} {Q : cf_Rs → Prop} : cf_wp T_H_isParent (12, [l0, l1], st, w) Q ↔ cf_wp T_H_isParent (16, [l0, l1], st, w) Q := cf_w1 rfl
theorem r_H_isParent_15 {l0 l1 : Option cf_AV} {st : List cf_AV} {w : cf_Wd} {Q : cf_Rs → Prop} : cf_wp T_H_isParent (15, [l0, l1], st, w) Q ↔ cf_wp T_H_isParent (16, [l0, l1], .inl 0 :: st, w) Q := cf_w1 rfl
theorem r_H_isParent_16 {l0 l1 : Option cf_AV} {x : Int32} {w : cf_Wd} {P : Int32 → cf_Wd → Prop} : cf_wp T_H_isParent (16, [l0, l1], [.inl x], w) (cf_qb P) ↔ ((x = 0 ∨ x = 1) ∧ P x w) := Iff.trans (cf_wr (q := (some (.inl x), w)) rfl) Iff.rfl
theorem e_H_isParent {a1 : Int32} {w : cf_Wd} {P : Int32 → cf_Wd → Prop} (h : cf_wp T_H_isParent (0, [some (.inr 1), some (.inl a1)], [], w) (cf_qb P)) : ∃ x w1, F_H_isParent [.inr 1, .inl a1] w = some (some (.inl x), w1) ∧ P x w1 := cf_eb rfl (Nat.le_of_ble_eq_true rfl) h
noncomputable def T_H_setCode (pc : Nat) : cf_Rw := bif Nat.ble pc 7 then
 (bif Nat.ble pc 1 then
  (bif Nat.ble pc 0 then
   (bif Nat.beq pc 0 then cf_aload 0 1 else cf_stuck)
   else
   (bif Nat.beq pc 1 then cf_get 0 2 4 else cf_stuck))
  else
  (bif Nat.ble pc 4 then
   (bif Nat.beq pc 4 then cf_iload 1 5 else cf_stuck)
   else
   (bif Nat.ble pc 5 then
    (bif Nat.beq pc 5 then cf_const 8 7 else cf_stuck)
    else
    (bif Nat.beq pc 7 then cf_bin (fun x y => x * y) 8 else cf_stuck))))
 else
 (bif Nat.ble pc 9 then
  (bif Nat.ble pc 8 then
   (bif Nat.beq pc 8 then cf_iload 2 9 else cf_stuck)
   else
   (bif Nat.beq pc 9 then cf_bin (fun x y => x + y) 10 else cf_stuck))
  else
  (bif Nat.ble pc 10 then
   (bif Nat.beq pc 10 then cf_iload 3 11 else cf_stuck)
   else
   (bif Nat.ble pc 11 then
    (bif Nat.beq pc 11 then cf_iast 12 else cf_stuck)
    else
    (bif Nat.beq pc 12 then cf_vret else cf_stuck))))
noncomputable def F_H_setCode : List cf_AV → cf_Wd → Option cf_Rs := cf_F T_H_setCode 4 none (cf_shV 1 3)
theorem r_H_setCode_0 {l1 l2 l3 : Option cf_AV} {k : Nat} {st : List cf_AV} {w : cf_Wd} {Q : cf_Rs → Prop} : cf_wp T_H_setCode (0, [some (.inr k), l1, l2, l3], st, w) Q ↔ cf_wp T_H_setCode (1, [some (.inr k), l1, l2, l3], .inr k :: st, w) Q := cf_w1 rfl
theorem r_H_setCode_1 {l0 l1 l2 l3 : Option cf_AV} {st : List cf_AV} {w : cf_Wd} {Q : cf_Rs → Prop} : cf_wp T_H_setCode (1, [l0, l1, l2, l3], .inr 1 :: st, w) Q ↔ cf_wp T_H_setCode (4, [l0, l1, l2, l3], .inr 4 :: st, w) Q := cf_w1 rfl
theorem r_H_setCode_4 {l0 l2 l3 : Option cf_AV} {x : Int32} {st : List cf_AV} {w : cf_Wd} {Q : cf_Rs → Prop} : cf_wp T_H_setCode (4, [l0, some (.inl x), l2, l3], st, w) Q ↔ cf_wp T_H_setCode (5, [l0, some (.inl x), l2, l3], .inl x :: st, w) Q := cf_w1 rfl
theorem r_H_setCode_5 {l0 l1 l2 l3 : Option cf_AV} {st : List cf_AV} {w : cf_Wd} {Q : cf_Rs → Prop} : cf_wp T_H_setCode (5, [l0, l1, l2, l3], st, w) Q ↔ cf_wp T_H_setCode (7, [l0, l1, l2, l3], .inl 8 :: st, w) Q := cf_w1 rfl
theorem r_H_setCode_7 {l0 l1 l2 l3 : Option cf_AV} {x y : Int32} {st : List cf_AV} {w : cf_Wd} {Q : cf_Rs → Prop} : cf_wp T_H_setCode (7, [l0, l1, l2, l3], .inl y :: .inl x :: st, w) Q ↔ cf_wp T_H_setCode (8, [l0, l1, l2, l3], .inl (x * y) :: st, w) Q := cf_w1 rfl
theorem r_H_setCode_8 {l0 l1 l3 : Option cf_AV} {x : Int32} {st : List cf_AV} {w : cf_Wd} {Q : cf_Rs → Prop} : cf_wp T_H_setCode (8, [l0, l1, some (.inl x), l3], st, w) Q ↔ cf_wp T_H_setCode (9, [l0, l1, some (.inl x), l3], .inl x :: st, w) Q := cf_w1 rfl
theorem r_H_setCode_9 {l0 l1 l2 l3 : Option cf_AV} {x y : Int32} {st : List cf_AV} {w : cf_Wd} {Q : cf_Rs → Prop} : cf_wp T_H_setCode (9, [l0, l1, l2, l3], .inl y :: .inl x :: st, w) Q ↔ cf_wp T_H_setCode (10, [l0, l1, l2, l3], .inl (x + y) :: st, w) Q := cf_w1 rfl
theorem r_H_setCode_10 {l0 l1 l2 : Option cf_AV} {x : Int32} {st : List cf_AV} {w : cf_Wd} {Q : cf_Rs → Prop} : cf_wp T_H_setCode (10, [l0, l1, l2, some (.inl x)], st, w) Q ↔ cf_wp T_H_setCode (11, [l0, l1, l2, some (.inl x)], .inl x :: st, w) Q := cf_w1 rfl
theorem r_H_setCode_11 {l0 l1 l2 l3 : Option cf_AV} {x i : Int32} {st : List cf_AV} {w : cf_Wd} {Q : cf_Rs → Prop} : cf_wp T_H_setCode (11, [l0, l1, l2, l3], .inl x :: .inl i :: .inr 4 :: st, w) Q ↔ (cf_in i 112 = true ∧ cf_wp T_H_setCode (12, [l0, l1, l2, l3], st, (cf_wa w 4 (upd (w 4) i.toNatClampNeg x))) Q) := cf_wg rfl
theorem r_H_setCode_12 {l0 l1 l2 l3 : Option cf_AV} {w : cf_Wd} {P : cf_Wd → Prop} : cf_wp T_H_setCode (12, [l0, l1, l2, l3], [], w) (cf_qv P) ↔ P w := Iff.trans (cf_wr (q := (none, w)) rfl) Iff.rfl
theorem e_H_setCode {a1 a2 a3 : Int32} {w : cf_Wd} {P : cf_Wd → Prop} (h : cf_wp T_H_setCode (0, [some (.inr 1), some (.inl a1), some (.inl a2), some (.inl a3)], [], w) (cf_qv P)) : ∃ w1, F_H_setCode [.inr 1, .inl a1, .inl a2, .inl a3] w = some (none, w1) ∧ P w1 := cf_ev rfl (Nat.le_of_ble_eq_true rfl) h
noncomputable def T_C_write (pc : Nat) : cf_Rw := bif Nat.ble pc 35 then
 (bif Nat.ble pc 16 then
  (bif Nat.ble pc 5 then
   (bif Nat.ble pc 1 then
    (bif Nat.ble pc 0 then
     (bif Nat.beq pc 0 then cf_aload 0 1 else cf_stuck)
     else
     (bif Nat.beq pc 1 then cf_get 4 0 4 else cf_stuck))
    else
    (bif Nat.ble pc 4 then
     (bif Nat.beq pc 4 then cf_iload 1 5 else cf_stuck)
     else
     (bif Nat.beq pc 5 then cf_iload 2 6 else cf_stuck)))
   else
   (bif Nat.ble pc 9 then
    (bif Nat.ble pc 6 then
     (bif Nat.beq pc 6 then cf_call 3 F_H_hasLine 9 else cf_stuck)
     else
     (bif Nat.beq pc 9 then cf_ifeq 44 12 else cf_stuck))
    else
    (bif Nat.ble pc 12 then
     (bif Nat.beq pc 12 then cf_iload 3 13 else cf_stuck)
     else
     (bif Nat.ble pc 13 then
      (bif Nat.beq pc 13 then cf_iflt 44 16 else cf_stuck)
      else
      (bif Nat.beq pc 16 then cf_iload 3 17 else cf_stuck)))))
  else
  (bif Nat.ble pc 24 then
   (bif Nat.ble pc 20 then
    (bif Nat.ble pc 17 then
     (bif Nat.beq pc 17 then cf_const 999 20 else cf_stuck)
     else
     (bif Nat.beq pc 20 then cf_icgt 44 23 else cf_stuck))
    else
    (bif Nat.ble pc 23 then
     (bif Nat.beq pc 23 then cf_aload 0 24 else cf_stuck)
     else
     (bif Nat.beq pc 24 then cf_get 4 0 27 else cf_stuck)))
   else
   (bif Nat.ble pc 28 then
    (bif Nat.ble pc 27 then
     (bif Nat.beq pc 27 then cf_iload 1 28 else cf_stuck)
     else
     (bif Nat.beq pc 28 then cf_call 2 F_H_isParent 31 else cf_stuck))
    else
    (bif Nat.ble pc 31 then
     (bif Nat.beq pc 31 then cf_ifne 44 34 else cf_stuck)
     else
     (bif Nat.ble pc 34 then
      (bif Nat.beq pc 34 then cf_aload 0 35 else cf_stuck)
      else
      (bif Nat.beq pc 35 then cf_get 4 2 38 else cf_stuck))))))
 else
 (bif Nat.ble pc 56 then
  (bif Nat.ble pc 45 then
   (bif Nat.ble pc 41 then
    (bif Nat.ble pc 38 then
     (bif Nat.beq pc 38 then cf_get 3 6 41 else cf_stuck)
     else
     (bif Nat.beq pc 41 then cf_ifeq 48 44 else cf_stuck))
    else
    (bif Nat.ble pc 44 then
     (bif Nat.beq pc 44 then cf_const 1 45 else cf_stuck)
     else
     (bif Nat.beq pc 45 then cf_goto 49 else cf_stuck)))
   else
   (bif Nat.ble pc 49 then
    (bif Nat.ble pc 48 then
     (bif Nat.beq pc 48 then cf_const 0 49 else cf_stuck)
     else
     (bif Nat.beq pc 49 then cf_istore 4 51 else cf_stuck))
    else
    (bif Nat.ble pc 51 then
     (bif Nat.beq pc 51 then cf_iload 4 53 else cf_stuck)
     else
     (bif Nat.ble pc 53 then
      (bif Nat.beq pc 53 then cf_ifeq 58 56 else cf_stuck)
      else
      (bif Nat.beq pc 56 then cf_const 0 57 else cf_stuck)))))
  else
  (bif Nat.ble pc 62 then
   (bif Nat.ble pc 58 then
    (bif Nat.ble pc 57 then
     (bif Nat.beq pc 57 then cf_iret else cf_stuck)
     else
     (bif Nat.beq pc 58 then cf_aload 0 59 else cf_stuck))
    else
    (bif Nat.ble pc 59 then
     (bif Nat.beq pc 59 then cf_get 4 0 62 else cf_stuck)
     else
     (bif Nat.beq pc 62 then cf_iload 1 63 else cf_stuck)))
   else
   (bif Nat.ble pc 64 then
    (bif Nat.ble pc 63 then
     (bif Nat.beq pc 63 then cf_iload 2 64 else cf_stuck)
     else
     (bif Nat.beq pc 64 then cf_iload 3 65 else cf_stuck))
    else
    (bif Nat.ble pc 65 then
     (bif Nat.beq pc 65 then cf_call 4 F_H_setCode 68 else cf_stuck)
     else
     (bif Nat.ble pc 68 then
      (bif Nat.beq pc 68 then cf_const 1 69 else cf_stuck)
      else
      (bif Nat.beq pc 69 then cf_iret else cf_stuck))))))
noncomputable def F_C_write : List cf_AV → cf_Wd → Option cf_Rs := cf_F T_C_write 5 (some .boolean) (cf_shV 0 3)
theorem r_C_write_0 {l1 l2 l3 l4 : Option cf_AV} {k : Nat} {st : List cf_AV} {w : cf_Wd} {Q : cf_Rs → Prop} : cf_wp T_C_write (0, [some (.inr k), l1, l2, l3, l4], st, w) Q ↔ cf_wp T_C_write (1, [some (.inr k), l1, l2, l3, l4], .inr k :: st, w) Q := cf_w1 rfl
theorem r_C_write_1 {l0 l1 l2 l3 l4 : Option cf_AV} {st : List cf_AV} {w : cf_Wd} {Q : cf_Rs → Prop} : cf_wp T_C_write (1, [l0, l1, l2, l3, l4], .inr 0 :: st, w) Q ↔ cf_wp T_C_write (4, [l0, l1, l2, l3, l4], .inr 1 :: st, w) Q := cf_w1 rfl
theorem r_C_write_4 {l0 l2 l3 l4 : Option cf_AV} {x : Int32} {st : List cf_AV} {w : cf_Wd} {Q : cf_Rs → Prop} : cf_wp T_C_write (4, [l0, some (.inl x), l2, l3, l4], st, w) Q ↔ cf_wp T_C_write (5, [l0, some (.inl x), l2, l3, l4], .inl x :: st, w) Q := cf_w1 rfl
theorem r_C_write_5 {l0 l1 l3 l4 : Option cf_AV} {x : Int32} {st : List cf_AV} {w : cf_Wd} {Q : cf_Rs → Prop} : cf_wp T_C_write (5, [l0, l1, some (.inl x), l3, l4], st, w) Q ↔ cf_wp T_C_write (6, [l0, l1, some (.inl x), l3, l4], .inl x :: st, w) Q := cf_w1 rfl
theorem r_C_write_6 {l0 l1 l2 l3 l4 : Option cf_AV} {a2 a1 : Int32} {w : cf_Wd} {Q : cf_Rs → Prop} : cf_wp T_C_write (6, [l0, l1, l2, l3, l4], [.inl a2, .inl a1, .inr 1], w) Q ↔ ∃ x w1, F_H_hasLine [.inr 1, .inl a1, .inl a2] w = some (some (.inl x), w1) ∧ cf_wp T_C_write (9, [l0, l1, l2, l3, l4], [.inl x], w1) Q := cf_wci (n := 3) (F := F_H_hasLine) (nx := 9) rfl rfl cf_F_b
theorem c_C_write_6 {l0 l1 l2 l3 l4 : Option cf_AV} {a2 a1 : Int32} {x1 : Int32} {w1 : cf_Wd} {w : cf_Wd} {Q : cf_Rs → Prop} (hs : F_H_hasLine [.inr 1, .inl a1, .inl a2] w = some (some (.inl x1), w1)) : cf_wp T_C_write (6, [l0, l1, l2, l3, l4], [.inl a2, .inl a1, .inr 1], w) Q ↔ cf_wp T_C_write (9, [l0, l1, l2, l3, l4], [.inl x1], w1) Q := r_C_write_6.trans (cf_xi hs)
theorem r_C_write_9 {l0 l1 l2 l3 l4 : Option cf_AV} {x : Int32} {st : List cf_AV} {w : cf_Wd} {Q : cf_Rs → Prop} : cf_wp T_C_write (9, [l0, l1, l2, l3, l4], .inl x :: st, w) Q ↔ (if x = 0 then cf_wp T_C_write (44, [l0, l1, l2, l3, l4], st, w) Q else cf_wp T_C_write (12, [l0, l1, l2, l3, l4], st, w) Q) := cf_wi rfl
theorem r_C_write_12 {l0 l1 l2 l4 : Option cf_AV} {x : Int32} {st : List cf_AV} {w : cf_Wd} {Q : cf_Rs → Prop} : cf_wp T_C_write (12, [l0, l1, l2, some (.inl x), l4], st, w) Q ↔ cf_wp T_C_write (13, [l0, l1, l2, some (.inl x), l4], .inl x :: st, w) Q := cf_w1 rfl
theorem r_C_write_13 {l0 l1 l2 l3 l4 : Option cf_AV} {x : Int32} {st : List cf_AV} {w : cf_Wd} {Q : cf_Rs → Prop} : cf_wp T_C_write (13, [l0, l1, l2, l3, l4], .inl x :: st, w) Q ↔ (if x < 0 then cf_wp T_C_write (44, [l0, l1, l2, l3, l4], st, w) Q else cf_wp T_C_write (16, [l0, l1, l2, l3, l4], st, w) Q) := cf_wi rfl
theorem r_C_write_16 {l0 l1 l2 l4 : Option cf_AV} {x : Int32} {st : List cf_AV} {w : cf_Wd} {Q : cf_Rs → Prop} : cf_wp T_C_write (16, [l0, l1, l2, some (.inl x), l4], st, w) Q ↔ cf_wp T_C_write (17, [l0, l1, l2, some (.inl x), l4], .inl x :: st, w) Q := cf_w1 rfl
theorem r_C_write_17 {l0 l1 l2 l3 l4 : Option cf_AV} {st : List cf_AV} {w : cf_Wd} {Q : cf_Rs → Prop} : cf_wp T_C_write (17, [l0, l1, l2, l3, l4], st, w) Q ↔ cf_wp T_C_write (20, [l0, l1, l2, l3, l4], .inl 999 :: st, w) Q := cf_w1 rfl
theorem r_C_write_20 {l0 l1 l2 l3 l4 : Option cf_AV} {x y : Int32} {st : List cf_AV} {w : cf_Wd} {Q : cf_Rs → Prop} : cf_wp T_C_write (20, [l0, l1, l2, l3, l4], .inl y :: .inl x :: st, w) Q ↔ (if y < x then cf_wp T_C_write (44, [l0, l1, l2, l3, l4], st, w) Q else cf_wp T_C_write (23, [l0, l1, l2, l3, l4], st, w) Q) := cf_wi rfl
theorem r_C_write_23 {l1 l2 l3 l4 : Option cf_AV} {k : Nat} {st : List cf_AV} {w : cf_Wd} {Q : cf_Rs → Prop} : cf_wp T_C_write (23, [some (.inr k), l1, l2, l3, l4], st, w) Q ↔ cf_wp T_C_write (24, [some (.inr k), l1, l2, l3, l4], .inr k :: st, w) Q := cf_w1 rfl
theorem r_C_write_24 {l0 l1 l2 l3 l4 : Option cf_AV} {st : List cf_AV} {w : cf_Wd} {Q : cf_Rs → Prop} : cf_wp T_C_write (24, [l0, l1, l2, l3, l4], .inr 0 :: st, w) Q ↔ cf_wp T_C_write (27, [l0, l1, l2, l3, l4], .inr 1 :: st, w) Q := cf_w1 rfl
theorem r_C_write_27 {l0 l2 l3 l4 : Option cf_AV} {x : Int32} {st : List cf_AV} {w : cf_Wd} {Q : cf_Rs → Prop} : cf_wp T_C_write (27, [l0, some (.inl x), l2, l3, l4], st, w) Q ↔ cf_wp T_C_write (28, [l0, some (.inl x), l2, l3, l4], .inl x :: st, w) Q := cf_w1 rfl
theorem r_C_write_28 {l0 l1 l2 l3 l4 : Option cf_AV} {a1 : Int32} {w : cf_Wd} {Q : cf_Rs → Prop} : cf_wp T_C_write (28, [l0, l1, l2, l3, l4], [.inl a1, .inr 1], w) Q ↔ ∃ x w1, F_H_isParent [.inr 1, .inl a1] w = some (some (.inl x), w1) ∧ cf_wp T_C_write (31, [l0, l1, l2, l3, l4], [.inl x], w1) Q := cf_wci (n := 2) (F := F_H_isParent) (nx := 31) rfl rfl cf_F_b
theorem c_C_write_28 {l0 l1 l2 l3 l4 : Option cf_AV} {a1 : Int32} {x1 : Int32} {w1 : cf_Wd} {w : cf_Wd} {Q : cf_Rs → Prop} (hs : F_H_isParent [.inr 1, .inl a1] w = some (some (.inl x1), w1)) : cf_wp T_C_write (28, [l0, l1, l2, l3, l4], [.inl a1, .inr 1], w) Q ↔ cf_wp T_C_write (31, [l0, l1, l2, l3, l4], [.inl x1], w1) Q := r_C_write_28.trans (cf_xi hs)
theorem r_C_write_31 {l0 l1 l2 l3 l4 : Option cf_AV} {x : Int32} {st : List cf_AV} {w : cf_Wd} {Q : cf_Rs → Prop} : cf_wp T_C_write (31, [l0, l1, l2, l3, l4], .inl x :: st, w) Q ↔ (if ¬ x = 0 then cf_wp T_C_write (44, [l0, l1, l2, l3, l4], st, w) Q else cf_wp T_C_write (34, [l0, l1, l2, l3, l4], st, w) Q) := cf_wi rfl
theorem r_C_write_34 {l1 l2 l3 l4 : Option cf_AV} {k : Nat} {st : List cf_AV} {w : cf_Wd} {Q : cf_Rs → Prop} : cf_wp T_C_write (34, [some (.inr k), l1, l2, l3, l4], st, w) Q ↔ cf_wp T_C_write (35, [some (.inr k), l1, l2, l3, l4], .inr k :: st, w) Q := cf_w1 rfl
theorem r_C_write_35 {l0 l1 l2 l3 l4 : Option cf_AV} {st : List cf_AV} {w : cf_Wd} {Q : cf_Rs → Prop} : cf_wp T_C_write (35, [l0, l1, l2, l3, l4], .inr 0 :: st, w) Q ↔ cf_wp T_C_write (38, [l0, l1, l2, l3, l4], .inr 10 :: st, w) Q := cf_w1 rfl
theorem r_C_write_38 {l0 l1 l2 l3 l4 : Option cf_AV} {st : List cf_AV} {w : cf_Wd} {Q : cf_Rs → Prop} : cf_wp T_C_write (38, [l0, l1, l2, l3, l4], .inr 10 :: st, w) Q ↔ cf_wp T_C_write (41, [l0, l1, l2, l3, l4], .inl (w 10 6) :: st, w) Q := cf_w1 rfl
theorem r_C_write_41 {l0 l1 l2 l3 l4 : Option cf_AV} {x : Int32} {st : List cf_AV} {w : cf_Wd} {Q : cf_Rs → Prop} : cf_wp T_C_write (41, [l0, l1, l2, l3, l4], .inl x :: st, w) Q ↔ (if x = 0 then cf_wp T_C_write (48, [l0, l1, l2, l3, l4], st, w) Q else cf_wp T_C_write (44, [l0, l1, l2, l3, l4], st, w) Q) := cf_wi rfl
theorem r_C_write_44 {l0 l1 l2 l3 l4 : Option cf_AV} {st : List cf_AV} {w : cf_Wd} {Q : cf_Rs → Prop} : cf_wp T_C_write (44, [l0, l1, l2, l3, l4], st, w) Q ↔ cf_wp T_C_write (45, [l0, l1, l2, l3, l4], .inl 1 :: st, w) Q := cf_w1 rfl
theorem r_C_write_45 {l0 l1 l2 l3 l4 : Option cf_AV} {st : List cf_AV} {w : cf_Wd} {Q : cf_Rs → Prop} : cf_wp T_C_write (45, [l0, l1, l2, l3, l4], st, w) Q ↔ cf_wp T_C_write (49, [l0, l1, l2, l3, l4], st, w) Q := cf_w1 rfl
theorem r_C_write_48 {l0 l1 l2 l3 l4 : Option cf_AV} {st : List cf_AV} {w : cf_Wd} {Q : cf_Rs → Prop} : cf_wp T_C_write (48, [l0, l1, l2, l3, l4], st, w) Q ↔ cf_wp T_C_write (49, [l0, l1, l2, l3, l4], .inl 0 :: st, w) Q := cf_w1 rfl
theorem r_C_write_49 {l0 l1 l2 l3 l4 : Option cf_AV} {x : Int32} {st : List cf_AV} {w : cf_Wd} {Q : cf_Rs → Prop} : cf_wp T_C_write (49, [l0, l1, l2, l3, l4], .inl x :: st, w) Q ↔ cf_wp T_C_write (51, [l0, l1, l2, l3, some (.inl x)], st, w) Q := cf_w1 rfl
theorem r_C_write_51 {l0 l1 l2 l3 : Option cf_AV} {x : Int32} {st : List cf_AV} {w : cf_Wd} {Q : cf_Rs → Prop} : cf_wp T_C_write (51, [l0, l1, l2, l3, some (.inl x)], st, w) Q ↔ cf_wp T_C_write (53, [l0, l1, l2, l3, some (.inl x)], .inl x :: st, w) Q := cf_w1 rfl
theorem r_C_write_53 {l0 l1 l2 l3 l4 : Option cf_AV} {x : Int32} {st : List cf_AV} {w : cf_Wd} {Q : cf_Rs → Prop} : cf_wp T_C_write (53, [l0, l1, l2, l3, l4], .inl x :: st, w) Q ↔ (if x = 0 then cf_wp T_C_write (58, [l0, l1, l2, l3, l4], st, w) Q else cf_wp T_C_write (56, [l0, l1, l2, l3, l4], st, w) Q) := cf_wi rfl
theorem r_C_write_56 {l0 l1 l2 l3 l4 : Option cf_AV} {st : List cf_AV} {w : cf_Wd} {Q : cf_Rs → Prop} : cf_wp T_C_write (56, [l0, l1, l2, l3, l4], st, w) Q ↔ cf_wp T_C_write (57, [l0, l1, l2, l3, l4], .inl 0 :: st, w) Q := cf_w1 rfl
theorem r_C_write_57 {l0 l1 l2 l3 l4 : Option cf_AV} {x : Int32} {w : cf_Wd} {P : Int32 → cf_Wd → Prop} : cf_wp T_C_write (57, [l0, l1, l2, l3, l4], [.inl x], w) (cf_qb P) ↔ ((x = 0 ∨ x = 1) ∧ P x w) := Iff.trans (cf_wr (q := (some (.inl x), w)) rfl) Iff.rfl
theorem r_C_write_58 {l1 l2 l3 l4 : Option cf_AV} {k : Nat} {st : List cf_AV} {w : cf_Wd} {Q : cf_Rs → Prop} : cf_wp T_C_write (58, [some (.inr k), l1, l2, l3, l4], st, w) Q ↔ cf_wp T_C_write (59, [some (.inr k), l1, l2, l3, l4], .inr k :: st, w) Q := cf_w1 rfl
theorem r_C_write_59 {l0 l1 l2 l3 l4 : Option cf_AV} {st : List cf_AV} {w : cf_Wd} {Q : cf_Rs → Prop} : cf_wp T_C_write (59, [l0, l1, l2, l3, l4], .inr 0 :: st, w) Q ↔ cf_wp T_C_write (62, [l0, l1, l2, l3, l4], .inr 1 :: st, w) Q := cf_w1 rfl
theorem r_C_write_62 {l0 l2 l3 l4 : Option cf_AV} {x : Int32} {st : List cf_AV} {w : cf_Wd} {Q : cf_Rs → Prop} : cf_wp T_C_write (62, [l0, some (.inl x), l2, l3, l4], st, w) Q ↔ cf_wp T_C_write (63, [l0, some (.inl x), l2, l3, l4], .inl x :: st, w) Q := cf_w1 rfl
theorem r_C_write_63 {l0 l1 l3 l4 : Option cf_AV} {x : Int32} {st : List cf_AV} {w : cf_Wd} {Q : cf_Rs → Prop} : cf_wp T_C_write (63, [l0, l1, some (.inl x), l3, l4], st, w) Q ↔ cf_wp T_C_write (64, [l0, l1, some (.inl x), l3, l4], .inl x :: st, w) Q := cf_w1 rfl
theorem r_C_write_64 {l0 l1 l2 l4 : Option cf_AV} {x : Int32} {st : List cf_AV} {w : cf_Wd} {Q : cf_Rs → Prop} : cf_wp T_C_write (64, [l0, l1, l2, some (.inl x), l4], st, w) Q ↔ cf_wp T_C_write (65, [l0, l1, l2, some (.inl x), l4], .inl x :: st, w) Q := cf_w1 rfl
theorem r_C_write_65 {l0 l1 l2 l3 l4 : Option cf_AV} {a3 a2 a1 : Int32} {w : cf_Wd} {Q : cf_Rs → Prop} : cf_wp T_C_write (65, [l0, l1, l2, l3, l4], [.inl a3, .inl a2, .inl a1, .inr 1], w) Q ↔ ∃ w1, F_H_setCode [.inr 1, .inl a1, .inl a2, .inl a3] w = some (none, w1) ∧ cf_wp T_C_write (68, [l0, l1, l2, l3, l4], [], w1) Q := cf_wcv (n := 4) (F := F_H_setCode) (nx := 68) rfl rfl cf_F_v
theorem c_C_write_65 {l0 l1 l2 l3 l4 : Option cf_AV} {a3 a2 a1 : Int32} {w1 : cf_Wd} {w : cf_Wd} {Q : cf_Rs → Prop} (hs : F_H_setCode [.inr 1, .inl a1, .inl a2, .inl a3] w = some (none, w1)) : cf_wp T_C_write (65, [l0, l1, l2, l3, l4], [.inl a3, .inl a2, .inl a1, .inr 1], w) Q ↔ cf_wp T_C_write (68, [l0, l1, l2, l3, l4], [], w1) Q := r_C_write_65.trans (cf_xv hs)
theorem r_C_write_68 {l0 l1 l2 l3 l4 : Option cf_AV} {st : List cf_AV} {w : cf_Wd} {Q : cf_Rs → Prop} : cf_wp T_C_write (68, [l0, l1, l2, l3, l4], st, w) Q ↔ cf_wp T_C_write (69, [l0, l1, l2, l3, l4], .inl 1 :: st, w) Q := cf_w1 rfl
theorem r_C_write_69 {l0 l1 l2 l3 l4 : Option cf_AV} {x : Int32} {w : cf_Wd} {P : Int32 → cf_Wd → Prop} : cf_wp T_C_write (69, [l0, l1, l2, l3, l4], [.inl x], w) (cf_qb P) ↔ ((x = 0 ∨ x = 1) ∧ P x w) := Iff.trans (cf_wr (q := (some (.inl x), w)) rfl) Iff.rfl
theorem e_C_write {a1 a2 a3 : Int32} {w : cf_Wd} {P : Int32 → cf_Wd → Prop} (h : cf_wp T_C_write (0, [some (.inr 0), some (.inl a1), some (.inl a2), some (.inl a3), none], [], w) (cf_qb P)) : ∃ x w1, F_C_write [.inr 0, .inl a1, .inl a2, .inl a3] w = some (some (.inl x), w1) ∧ P x w1 := cf_eb rfl (Nat.le_of_ble_eq_true rfl) h
noncomputable def T_H_codeAt (pc : Nat) : cf_Rw := bif Nat.ble pc 5 then
 (bif Nat.ble pc 1 then
  (bif Nat.ble pc 0 then
   (bif Nat.beq pc 0 then cf_aload 0 1 else cf_stuck)
   else
   (bif Nat.beq pc 1 then cf_get 0 2 4 else cf_stuck))
  else
  (bif Nat.ble pc 4 then
   (bif Nat.beq pc 4 then cf_iload 1 5 else cf_stuck)
   else
   (bif Nat.beq pc 5 then cf_const 8 7 else cf_stuck)))
 else
 (bif Nat.ble pc 8 then
  (bif Nat.ble pc 7 then
   (bif Nat.beq pc 7 then cf_bin (fun x y => x * y) 8 else cf_stuck)
   else
   (bif Nat.beq pc 8 then cf_iload 2 9 else cf_stuck))
  else
  (bif Nat.ble pc 9 then
   (bif Nat.beq pc 9 then cf_bin (fun x y => x + y) 10 else cf_stuck)
   else
   (bif Nat.ble pc 10 then
    (bif Nat.beq pc 10 then cf_iald 11 else cf_stuck)
    else
    (bif Nat.beq pc 11 then cf_iret else cf_stuck))))
noncomputable def F_H_codeAt : List cf_AV → cf_Wd → Option cf_Rs := cf_F T_H_codeAt 3 (some .int) (cf_shV 1 2)
theorem r_H_codeAt_0 {l1 l2 : Option cf_AV} {k : Nat} {st : List cf_AV} {w : cf_Wd} {Q : cf_Rs → Prop} : cf_wp T_H_codeAt (0, [some (.inr k), l1, l2], st, w) Q ↔ cf_wp T_H_codeAt (1, [some (.inr k), l1, l2], .inr k :: st, w) Q := cf_w1 rfl
theorem r_H_codeAt_1 {l0 l1 l2 : Option cf_AV} {st : List cf_AV} {w : cf_Wd} {Q : cf_Rs → Prop} : cf_wp T_H_codeAt (1, [l0, l1, l2], .inr 1 :: st, w) Q ↔ cf_wp T_H_codeAt (4, [l0, l1, l2], .inr 4 :: st, w) Q := cf_w1 rfl
theorem r_H_codeAt_4 {l0 l2 : Option cf_AV} {x : Int32} {st : List cf_AV} {w : cf_Wd} {Q : cf_Rs → Prop} : cf_wp T_H_codeAt (4, [l0, some (.inl x), l2], st, w) Q ↔ cf_wp T_H_codeAt (5, [l0, some (.inl x), l2], .inl x :: st, w) Q := cf_w1 rfl
theorem r_H_codeAt_5 {l0 l1 l2 : Option cf_AV} {st : List cf_AV} {w : cf_Wd} {Q : cf_Rs → Prop} : cf_wp T_H_codeAt (5, [l0, l1, l2], st, w) Q ↔ cf_wp T_H_codeAt (7, [l0, l1, l2], .inl 8 :: st, w) Q := cf_w1 rfl
theorem r_H_codeAt_7 {l0 l1 l2 : Option cf_AV} {x y : Int32} {st : List cf_AV} {w : cf_Wd} {Q : cf_Rs → Prop} : cf_wp T_H_codeAt (7, [l0, l1, l2], .inl y :: .inl x :: st, w) Q ↔ cf_wp T_H_codeAt (8, [l0, l1, l2], .inl (x * y) :: st, w) Q := cf_w1 rfl
theorem r_H_codeAt_8 {l0 l1 : Option cf_AV} {x : Int32} {st : List cf_AV} {w : cf_Wd} {Q : cf_Rs → Prop} : cf_wp T_H_codeAt (8, [l0, l1, some (.inl x)], st, w) Q ↔ cf_wp T_H_codeAt (9, [l0, l1, some (.inl x)], .inl x :: st, w) Q := cf_w1 rfl
theorem r_H_codeAt_9 {l0 l1 l2 : Option cf_AV} {x y : Int32} {st : List cf_AV} {w : cf_Wd} {Q : cf_Rs → Prop} : cf_wp T_H_codeAt (9, [l0, l1, l2], .inl y :: .inl x :: st, w) Q ↔ cf_wp T_H_codeAt (10, [l0, l1, l2], .inl (x + y) :: st, w) Q := cf_w1 rfl
theorem r_H_codeAt_10 {l0 l1 l2 : Option cf_AV} {i : Int32} {st : List cf_AV} {w : cf_Wd} {Q : cf_Rs → Prop} : cf_wp T_H_codeAt (10, [l0, l1, l2], .inl i :: .inr 4 :: st, w) Q ↔ (cf_in i 112 = true ∧ cf_wp T_H_codeAt (11, [l0, l1, l2], .inl (w 4 i.toNatClampNeg) :: st, w) Q) := cf_wg rfl
theorem r_H_codeAt_11 {l0 l1 l2 : Option cf_AV} {x : Int32} {w : cf_Wd} {P : Int32 → cf_Wd → Prop} : cf_wp T_H_codeAt (11, [l0, l1, l2], [.inl x], w) (cf_qi P) ↔ P x w := Iff.trans (cf_wr (q := (some (.inl x), w)) rfl) Iff.rfl
theorem e_H_codeAt {a1 a2 : Int32} {w : cf_Wd} {P : Int32 → cf_Wd → Prop} (h : cf_wp T_H_codeAt (0, [some (.inr 1), some (.inl a1), some (.inl a2)], [], w) (cf_qi P)) : ∃ x w1, F_H_codeAt [.inr 1, .inl a1, .inl a2] w = some (some (.inl x), w1) ∧ P x w1 := cf_ei rfl (Nat.le_of_ble_eq_true rfl) h
noncomputable def T_C_line (pc : Nat) : cf_Rw := bif Nat.ble pc 12 then
 (bif Nat.ble pc 4 then
  (bif Nat.ble pc 0 then
   (bif Nat.beq pc 0 then cf_aload 0 1 else cf_stuck)
   else
   (bif Nat.ble pc 1 then
    (bif Nat.beq pc 1 then cf_get 4 0 4 else cf_stuck)
    else
    (bif Nat.beq pc 4 then cf_iload 1 5 else cf_stuck)))
  else
  (bif Nat.ble pc 6 then
   (bif Nat.ble pc 5 then
    (bif Nat.beq pc 5 then cf_iload 2 6 else cf_stuck)
    else
    (bif Nat.beq pc 6 then cf_call 3 F_H_hasLine 9 else cf_stuck))
   else
   (bif Nat.ble pc 9 then
    (bif Nat.beq pc 9 then cf_ifeq 24 12 else cf_stuck)
    else
    (bif Nat.beq pc 12 then cf_aload 0 13 else cf_stuck))))
 else
 (bif Nat.ble pc 17 then
  (bif Nat.ble pc 13 then
   (bif Nat.beq pc 13 then cf_get 4 0 16 else cf_stuck)
   else
   (bif Nat.ble pc 16 then
    (bif Nat.beq pc 16 then cf_iload 1 17 else cf_stuck)
    else
    (bif Nat.beq pc 17 then cf_iload 2 18 else cf_stuck)))
  else
  (bif Nat.ble pc 21 then
   (bif Nat.ble pc 18 then
    (bif Nat.beq pc 18 then cf_call 3 F_H_codeAt 21 else cf_stuck)
    else
    (bif Nat.beq pc 21 then cf_goto 25 else cf_stuck))
   else
   (bif Nat.ble pc 24 then
    (bif Nat.beq pc 24 then cf_const (-1) 25 else cf_stuck)
    else
    (bif Nat.beq pc 25 then cf_iret else cf_stuck))))
noncomputable def F_C_line : List cf_AV → cf_Wd → Option cf_Rs := cf_F T_C_line 3 (some .int) (cf_shV 0 2)
theorem r_C_line_0 {l1 l2 : Option cf_AV} {k : Nat} {st : List cf_AV} {w : cf_Wd} {Q : cf_Rs → Prop} : cf_wp T_C_line (0, [some (.inr k), l1, l2], st, w) Q ↔ cf_wp T_C_line (1, [some (.inr k), l1, l2], .inr k :: st, w) Q := cf_w1 rfl
theorem r_C_line_1 {l0 l1 l2 : Option cf_AV} {st : List cf_AV} {w : cf_Wd} {Q : cf_Rs → Prop} : cf_wp T_C_line (1, [l0, l1, l2], .inr 0 :: st, w) Q ↔ cf_wp T_C_line (4, [l0, l1, l2], .inr 1 :: st, w) Q := cf_w1 rfl
theorem r_C_line_4 {l0 l2 : Option cf_AV} {x : Int32} {st : List cf_AV} {w : cf_Wd} {Q : cf_Rs → Prop} : cf_wp T_C_line (4, [l0, some (.inl x), l2], st, w) Q ↔ cf_wp T_C_line (5, [l0, some (.inl x), l2], .inl x :: st, w) Q := cf_w1 rfl
theorem r_C_line_5 {l0 l1 : Option cf_AV} {x : Int32} {st : List cf_AV} {w : cf_Wd} {Q : cf_Rs → Prop} : cf_wp T_C_line (5, [l0, l1, some (.inl x)], st, w) Q ↔ cf_wp T_C_line (6, [l0, l1, some (.inl x)], .inl x :: st, w) Q := cf_w1 rfl
theorem r_C_line_6 {l0 l1 l2 : Option cf_AV} {a2 a1 : Int32} {w : cf_Wd} {Q : cf_Rs → Prop} : cf_wp T_C_line (6, [l0, l1, l2], [.inl a2, .inl a1, .inr 1], w) Q ↔ ∃ x w1, F_H_hasLine [.inr 1, .inl a1, .inl a2] w = some (some (.inl x), w1) ∧ cf_wp T_C_line (9, [l0, l1, l2], [.inl x], w1) Q := cf_wci (n := 3) (F := F_H_hasLine) (nx := 9) rfl rfl cf_F_b
theorem c_C_line_6 {l0 l1 l2 : Option cf_AV} {a2 a1 : Int32} {x1 : Int32} {w1 : cf_Wd} {w : cf_Wd} {Q : cf_Rs → Prop} (hs : F_H_hasLine [.inr 1, .inl a1, .inl a2] w = some (some (.inl x1), w1)) : cf_wp T_C_line (6, [l0, l1, l2], [.inl a2, .inl a1, .inr 1], w) Q ↔ cf_wp T_C_line (9, [l0, l1, l2], [.inl x1], w1) Q := r_C_line_6.trans (cf_xi hs)
theorem r_C_line_9 {l0 l1 l2 : Option cf_AV} {x : Int32} {st : List cf_AV} {w : cf_Wd} {Q : cf_Rs → Prop} : cf_wp T_C_line (9, [l0, l1, l2], .inl x :: st, w) Q ↔ (if x = 0 then cf_wp T_C_line (24, [l0, l1, l2], st, w) Q else cf_wp T_C_line (12, [l0, l1, l2], st, w) Q) := cf_wi rfl
theorem r_C_line_12 {l1 l2 : Option cf_AV} {k : Nat} {st : List cf_AV} {w : cf_Wd} {Q : cf_Rs → Prop} : cf_wp T_C_line (12, [some (.inr k), l1, l2], st, w) Q ↔ cf_wp T_C_line (13, [some (.inr k), l1, l2], .inr k :: st, w) Q := cf_w1 rfl
theorem r_C_line_13 {l0 l1 l2 : Option cf_AV} {st : List cf_AV} {w : cf_Wd} {Q : cf_Rs → Prop} : cf_wp T_C_line (13, [l0, l1, l2], .inr 0 :: st, w) Q ↔ cf_wp T_C_line (16, [l0, l1, l2], .inr 1 :: st, w) Q := cf_w1 rfl
theorem r_C_line_16 {l0 l2 : Option cf_AV} {x : Int32} {st : List cf_AV} {w : cf_Wd} {Q : cf_Rs → Prop} : cf_wp T_C_line (16, [l0, some (.inl x), l2], st, w) Q ↔ cf_wp T_C_line (17, [l0, some (.inl x), l2], .inl x :: st, w) Q := cf_w1 rfl
theorem r_C_line_17 {l0 l1 : Option cf_AV} {x : Int32} {st : List cf_AV} {w : cf_Wd} {Q : cf_Rs → Prop} : cf_wp T_C_line (17, [l0, l1, some (.inl x)], st, w) Q ↔ cf_wp T_C_line (18, [l0, l1, some (.inl x)], .inl x :: st, w) Q := cf_w1 rfl
theorem r_C_line_18 {l0 l1 l2 : Option cf_AV} {a2 a1 : Int32} {w : cf_Wd} {Q : cf_Rs → Prop} : cf_wp T_C_line (18, [l0, l1, l2], [.inl a2, .inl a1, .inr 1], w) Q ↔ ∃ x w1, F_H_codeAt [.inr 1, .inl a1, .inl a2] w = some (some (.inl x), w1) ∧ cf_wp T_C_line (21, [l0, l1, l2], [.inl x], w1) Q := cf_wci (n := 3) (F := F_H_codeAt) (nx := 21) rfl rfl cf_F_i
theorem c_C_line_18 {l0 l1 l2 : Option cf_AV} {a2 a1 : Int32} {x1 : Int32} {w1 : cf_Wd} {w : cf_Wd} {Q : cf_Rs → Prop} (hs : F_H_codeAt [.inr 1, .inl a1, .inl a2] w = some (some (.inl x1), w1)) : cf_wp T_C_line (18, [l0, l1, l2], [.inl a2, .inl a1, .inr 1], w) Q ↔ cf_wp T_C_line (21, [l0, l1, l2], [.inl x1], w1) Q := r_C_line_18.trans (cf_xi hs)
theorem r_C_line_21 {l0 l1 l2 : Option cf_AV} {st : List cf_AV} {w : cf_Wd} {Q : cf_Rs → Prop} : cf_wp T_C_line (21, [l0, l1, l2], st, w) Q ↔ cf_wp T_C_line (25, [l0, l1, l2], st, w) Q := cf_w1 rfl
theorem r_C_line_24 {l0 l1 l2 : Option cf_AV} {st : List cf_AV} {w : cf_Wd} {Q : cf_Rs → Prop} : cf_wp T_C_line (24, [l0, l1, l2], st, w) Q ↔ cf_wp T_C_line (25, [l0, l1, l2], .inl (-1) :: st, w) Q := cf_w1 rfl
theorem r_C_line_25 {l0 l1 l2 : Option cf_AV} {x : Int32} {w : cf_Wd} {P : Int32 → cf_Wd → Prop} : cf_wp T_C_line (25, [l0, l1, l2], [.inl x], w) (cf_qi P) ↔ P x w := Iff.trans (cf_wr (q := (some (.inl x), w)) rfl) Iff.rfl
theorem e_C_line {a1 a2 : Int32} {w : cf_Wd} {P : Int32 → cf_Wd → Prop} (h : cf_wp T_C_line (0, [some (.inr 0), some (.inl a1), some (.inl a2)], [], w) (cf_qi P)) : ∃ x w1, F_C_line [.inr 0, .inl a1, .inl a2] w = some (some (.inl x), w1) ∧ P x w1 := cf_ei rfl (Nat.le_of_ble_eq_true rfl) h
noncomputable def T_M_loadLines (pc : Nat) : cf_Rw := bif Nat.ble pc 16 then
 (bif Nat.ble pc 7 then
  (bif Nat.ble pc 1 then
   (bif Nat.ble pc 0 then
    (bif Nat.beq pc 0 then cf_const 0 1 else cf_stuck)
    else
    (bif Nat.beq pc 1 then cf_istore 4 3 else cf_stuck))
   else
   (bif Nat.ble pc 3 then
    (bif Nat.beq pc 3 then cf_iload 4 5 else cf_stuck)
    else
    (bif Nat.ble pc 5 then
     (bif Nat.beq pc 5 then cf_const 8 7 else cf_stuck)
     else
     (bif Nat.beq pc 7 then cf_icge 39 10 else cf_stuck))))
  else
  (bif Nat.ble pc 13 then
   (bif Nat.ble pc 10 then
    (bif Nat.beq pc 10 then cf_iload 3 11 else cf_stuck)
    else
    (bif Nat.ble pc 11 then
     (bif Nat.beq pc 11 then cf_iload 4 13 else cf_stuck)
     else
     (bif Nat.beq pc 13 then cf_bin (fun x y => x >>> (y &&& 31)) 14 else cf_stuck)))
   else
   (bif Nat.ble pc 14 then
    (bif Nat.beq pc 14 then cf_const 1 15 else cf_stuck)
    else
    (bif Nat.ble pc 15 then
     (bif Nat.beq pc 15 then cf_bin (fun x y => x &&& y) 16 else cf_stuck)
     else
     (bif Nat.beq pc 16 then cf_ifeq 33 19 else cf_stuck)))))
 else
 (bif Nat.ble pc 26 then
  (bif Nat.ble pc 20 then
   (bif Nat.ble pc 19 then
    (bif Nat.beq pc 19 then cf_aload 0 20 else cf_stuck)
    else
    (bif Nat.beq pc 20 then cf_get 1 0 23 else cf_stuck))
   else
   (bif Nat.ble pc 23 then
    (bif Nat.beq pc 23 then cf_iload 4 25 else cf_stuck)
    else
    (bif Nat.ble pc 25 then
     (bif Nat.beq pc 25 then cf_aload 1 26 else cf_stuck)
     else
     (bif Nat.beq pc 26 then cf_iload 2 27 else cf_stuck))))
  else
  (bif Nat.ble pc 32 then
   (bif Nat.ble pc 27 then
    (bif Nat.beq pc 27 then cf_iload 4 29 else cf_stuck)
    else
    (bif Nat.ble pc 29 then
     (bif Nat.beq pc 29 then cf_call 3 F_H_codeAt 32 else cf_stuck)
     else
     (bif Nat.beq pc 32 then cf_iast 33 else cf_stuck)))
   else
   (bif Nat.ble pc 33 then
    (bif Nat.beq pc 33 then cf_iinc 4 1 36 else cf_stuck)
    else
    (bif Nat.ble pc 36 then
     (bif Nat.beq pc 36 then cf_goto 3 else cf_stuck)
     else
     (bif Nat.beq pc 39 then cf_vret else cf_stuck)))))
noncomputable def F_M_loadLines : List cf_AV → cf_Wd → Option cf_Rs := cf_F T_M_loadLines 5 none (cf_shV 5 3)
theorem r_M_loadLines_0 {l0 l1 l2 l3 l4 : Option cf_AV} {st : List cf_AV} {w : cf_Wd} {Q : cf_Rs → Prop} : cf_wp T_M_loadLines (0, [l0, l1, l2, l3, l4], st, w) Q ↔ cf_wp T_M_loadLines (1, [l0, l1, l2, l3, l4], .inl 0 :: st, w) Q := cf_w1 rfl
theorem r_M_loadLines_1 {l0 l1 l2 l3 l4 : Option cf_AV} {x : Int32} {st : List cf_AV} {w : cf_Wd} {Q : cf_Rs → Prop} : cf_wp T_M_loadLines (1, [l0, l1, l2, l3, l4], .inl x :: st, w) Q ↔ cf_wp T_M_loadLines (3, [l0, l1, l2, l3, some (.inl x)], st, w) Q := cf_w1 rfl
theorem r_M_loadLines_3 {l0 l1 l2 l3 : Option cf_AV} {x : Int32} {st : List cf_AV} {w : cf_Wd} {Q : cf_Rs → Prop} : cf_wp T_M_loadLines (3, [l0, l1, l2, l3, some (.inl x)], st, w) Q ↔ cf_wp T_M_loadLines (5, [l0, l1, l2, l3, some (.inl x)], .inl x :: st, w) Q := cf_w1 rfl
theorem r_M_loadLines_5 {l0 l1 l2 l3 l4 : Option cf_AV} {st : List cf_AV} {w : cf_Wd} {Q : cf_Rs → Prop} : cf_wp T_M_loadLines (5, [l0, l1, l2, l3, l4], st, w) Q ↔ cf_wp T_M_loadLines (7, [l0, l1, l2, l3, l4], .inl 8 :: st, w) Q := cf_w1 rfl
theorem r_M_loadLines_7 {l0 l1 l2 l3 l4 : Option cf_AV} {x y : Int32} {st : List cf_AV} {w : cf_Wd} {Q : cf_Rs → Prop} : cf_wp T_M_loadLines (7, [l0, l1, l2, l3, l4], .inl y :: .inl x :: st, w) Q ↔ (if y ≤ x then cf_wp T_M_loadLines (39, [l0, l1, l2, l3, l4], st, w) Q else cf_wp T_M_loadLines (10, [l0, l1, l2, l3, l4], st, w) Q) := cf_wi rfl
theorem r_M_loadLines_10 {l0 l1 l2 l4 : Option cf_AV} {x : Int32} {st : List cf_AV} {w : cf_Wd} {Q : cf_Rs → Prop} : cf_wp T_M_loadLines (10, [l0, l1, l2, some (.inl x), l4], st, w) Q ↔ cf_wp T_M_loadLines (11, [l0, l1, l2, some (.inl x), l4], .inl x :: st, w) Q := cf_w1 rfl
theorem r_M_loadLines_11 {l0 l1 l2 l3 : Option cf_AV} {x : Int32} {st : List cf_AV} {w : cf_Wd} {Q : cf_Rs → Prop} : cf_wp T_M_loadLines (11, [l0, l1, l2, l3, some (.inl x)], st, w) Q ↔ cf_wp T_M_loadLines (13, [l0, l1, l2, l3, some (.inl x)], .inl x :: st, w) Q := cf_w1 rfl
theorem r_M_loadLines_13 {l0 l1 l2 l3 l4 : Option cf_AV} {x y : Int32} {st : List cf_AV} {w : cf_Wd} {Q : cf_Rs → Prop} : cf_wp T_M_loadLines (13, [l0, l1, l2, l3, l4], .inl y :: .inl x :: st, w) Q ↔ cf_wp T_M_loadLines (14, [l0, l1, l2, l3, l4], .inl (x >>> (y &&& 31)) :: st, w) Q := cf_w1 rfl
theorem r_M_loadLines_14 {l0 l1 l2 l3 l4 : Option cf_AV} {st : List cf_AV} {w : cf_Wd} {Q : cf_Rs → Prop} : cf_wp T_M_loadLines (14, [l0, l1, l2, l3, l4], st, w) Q ↔ cf_wp T_M_loadLines (15, [l0, l1, l2, l3, l4], .inl 1 :: st, w) Q := cf_w1 rfl
theorem r_M_loadLines_15 {l0 l1 l2 l3 l4 : Option cf_AV} {x y : Int32} {st : List cf_AV} {w : cf_Wd} {Q : cf_Rs → Prop} : cf_wp T_M_loadLines (15, [l0, l1, l2, l3, l4], .inl y :: .inl x :: st, w) Q ↔ cf_wp T_M_loadLines (16, [l0, l1, l2, l3, l4], .inl (x &&& y) :: st, w) Q := cf_w1 rfl
theorem r_M_loadLines_16 {l0 l1 l2 l3 l4 : Option cf_AV} {x : Int32} {st : List cf_AV} {w : cf_Wd} {Q : cf_Rs → Prop} : cf_wp T_M_loadLines (16, [l0, l1, l2, l3, l4], .inl x :: st, w) Q ↔ (if x = 0 then cf_wp T_M_loadLines (33, [l0, l1, l2, l3, l4], st, w) Q else cf_wp T_M_loadLines (19, [l0, l1, l2, l3, l4], st, w) Q) := cf_wi rfl
theorem r_M_loadLines_19 {l1 l2 l3 l4 : Option cf_AV} {k : Nat} {st : List cf_AV} {w : cf_Wd} {Q : cf_Rs → Prop} : cf_wp T_M_loadLines (19, [some (.inr k), l1, l2, l3, l4], st, w) Q ↔ cf_wp T_M_loadLines (20, [some (.inr k), l1, l2, l3, l4], .inr k :: st, w) Q := cf_w1 rfl
theorem r_M_loadLines_20 {l0 l1 l2 l3 l4 : Option cf_AV} {st : List cf_AV} {w : cf_Wd} {Q : cf_Rs → Prop} : cf_wp T_M_loadLines (20, [l0, l1, l2, l3, l4], .inr 5 :: st, w) Q ↔ cf_wp T_M_loadLines (23, [l0, l1, l2, l3, l4], .inr 6 :: st, w) Q := cf_w1 rfl
theorem r_M_loadLines_23 {l0 l1 l2 l3 : Option cf_AV} {x : Int32} {st : List cf_AV} {w : cf_Wd} {Q : cf_Rs → Prop} : cf_wp T_M_loadLines (23, [l0, l1, l2, l3, some (.inl x)], st, w) Q ↔ cf_wp T_M_loadLines (25, [l0, l1, l2, l3, some (.inl x)], .inl x :: st, w) Q := cf_w1 rfl
theorem r_M_loadLines_25 {l0 l2 l3 l4 : Option cf_AV} {k : Nat} {st : List cf_AV} {w : cf_Wd} {Q : cf_Rs → Prop} : cf_wp T_M_loadLines (25, [l0, some (.inr k), l2, l3, l4], st, w) Q ↔ cf_wp T_M_loadLines (26, [l0, some (.inr k), l2, l3, l4], .inr k :: st, w) Q := cf_w1 rfl
theorem r_M_loadLines_26 {l0 l1 l3 l4 : Option cf_AV} {x : Int32} {st : List cf_AV} {w : cf_Wd} {Q : cf_Rs → Prop} : cf_wp T_M_loadLines (26, [l0, l1, some (.inl x), l3, l4], st, w) Q ↔ cf_wp T_M_loadLines (27, [l0, l1, some (.inl x), l3, l4], .inl x :: st, w) Q := cf_w1 rfl
theorem r_M_loadLines_27 {l0 l1 l2 l3 : Option cf_AV} {x : Int32} {st : List cf_AV} {w : cf_Wd} {Q : cf_Rs → Prop} : cf_wp T_M_loadLines (27, [l0, l1, l2, l3, some (.inl x)], st, w) Q ↔ cf_wp T_M_loadLines (29, [l0, l1, l2, l3, some (.inl x)], .inl x :: st, w) Q := cf_w1 rfl
theorem r_M_loadLines_29 {l0 l1 l2 l3 l4 : Option cf_AV} {a2 a1 : Int32} {t0 t1 : cf_AV} {w : cf_Wd} {Q : cf_Rs → Prop} : cf_wp T_M_loadLines (29, [l0, l1, l2, l3, l4], [.inl a2, .inl a1, .inr 1, t0, t1], w) Q ↔ ∃ x w1, F_H_codeAt [.inr 1, .inl a1, .inl a2] w = some (some (.inl x), w1) ∧ cf_wp T_M_loadLines (32, [l0, l1, l2, l3, l4], [.inl x, t0, t1], w1) Q := cf_wci (n := 3) (F := F_H_codeAt) (nx := 32) rfl rfl cf_F_i
theorem c_M_loadLines_29 {l0 l1 l2 l3 l4 : Option cf_AV} {a2 a1 : Int32} {t0 t1 : cf_AV} {x1 : Int32} {w1 : cf_Wd} {w : cf_Wd} {Q : cf_Rs → Prop} (hs : F_H_codeAt [.inr 1, .inl a1, .inl a2] w = some (some (.inl x1), w1)) : cf_wp T_M_loadLines (29, [l0, l1, l2, l3, l4], [.inl a2, .inl a1, .inr 1, t0, t1], w) Q ↔ cf_wp T_M_loadLines (32, [l0, l1, l2, l3, l4], [.inl x1, t0, t1], w1) Q := r_M_loadLines_29.trans (cf_xi hs)
theorem r_M_loadLines_32 {l0 l1 l2 l3 l4 : Option cf_AV} {x i : Int32} {st : List cf_AV} {w : cf_Wd} {Q : cf_Rs → Prop} : cf_wp T_M_loadLines (32, [l0, l1, l2, l3, l4], .inl x :: .inl i :: .inr 6 :: st, w) Q ↔ (cf_in i 8 = true ∧ cf_wp T_M_loadLines (33, [l0, l1, l2, l3, l4], st, (cf_wa w 6 (upd (w 6) i.toNatClampNeg x))) Q) := cf_wg rfl
theorem r_M_loadLines_33 {l0 l1 l2 l3 : Option cf_AV} {x : Int32} {st : List cf_AV} {w : cf_Wd} {Q : cf_Rs → Prop} : cf_wp T_M_loadLines (33, [l0, l1, l2, l3, some (.inl x)], st, w) Q ↔ cf_wp T_M_loadLines (36, [l0, l1, l2, l3, some (.inl (x + 1))], st, w) Q := cf_w1 rfl
theorem r_M_loadLines_36 {l0 l1 l2 l3 l4 : Option cf_AV} {st : List cf_AV} {w : cf_Wd} {Q : cf_Rs → Prop} : cf_wp T_M_loadLines (36, [l0, l1, l2, l3, l4], st, w) Q ↔ cf_wp T_M_loadLines (3, [l0, l1, l2, l3, l4], st, w) Q := cf_w1 rfl
theorem r_M_loadLines_39 {l0 l1 l2 l3 l4 : Option cf_AV} {w : cf_Wd} {P : cf_Wd → Prop} : cf_wp T_M_loadLines (39, [l0, l1, l2, l3, l4], [], w) (cf_qv P) ↔ P w := Iff.trans (cf_wr (q := (none, w)) rfl) Iff.rfl
theorem e_M_loadLines {a2 a3 : Int32} {w : cf_Wd} {P : cf_Wd → Prop} (h : cf_wp T_M_loadLines (0, [some (.inr 5), some (.inr 1), some (.inl a2), some (.inl a3), none], [], w) (cf_qv P)) : ∃ w1, F_M_loadLines [.inr 5, .inr 1, .inl a2, .inl a3] w = some (none, w1) ∧ P w1 := cf_ev rfl (Nat.le_of_ble_eq_true rfl) h
noncomputable def T_M_load (pc : Nat) : cf_Rw := bif Nat.ble pc 2 then
 (bif Nat.ble pc 0 then
  (bif Nat.beq pc 0 then cf_aload 0 1 else cf_stuck)
  else
  (bif Nat.ble pc 1 then
   (bif Nat.beq pc 1 then cf_aload 1 2 else cf_stuck)
   else
   (bif Nat.beq pc 2 then cf_iload 2 3 else cf_stuck)))
 else
 (bif Nat.ble pc 3 then
  (bif Nat.beq pc 3 then cf_const 255 6 else cf_stuck)
  else
  (bif Nat.ble pc 6 then
   (bif Nat.beq pc 6 then cf_call 4 F_M_loadLines 9 else cf_stuck)
   else
   (bif Nat.beq pc 9 then cf_vret else cf_stuck)))
noncomputable def F_M_load : List cf_AV → cf_Wd → Option cf_Rs := cf_F T_M_load 3 none (cf_shV 5 2)
theorem r_M_load_0 {l1 l2 : Option cf_AV} {k : Nat} {st : List cf_AV} {w : cf_Wd} {Q : cf_Rs → Prop} : cf_wp T_M_load (0, [some (.inr k), l1, l2], st, w) Q ↔ cf_wp T_M_load (1, [some (.inr k), l1, l2], .inr k :: st, w) Q := cf_w1 rfl
theorem r_M_load_1 {l0 l2 : Option cf_AV} {k : Nat} {st : List cf_AV} {w : cf_Wd} {Q : cf_Rs → Prop} : cf_wp T_M_load (1, [l0, some (.inr k), l2], st, w) Q ↔ cf_wp T_M_load (2, [l0, some (.inr k), l2], .inr k :: st, w) Q := cf_w1 rfl
theorem r_M_load_2 {l0 l1 : Option cf_AV} {x : Int32} {st : List cf_AV} {w : cf_Wd} {Q : cf_Rs → Prop} : cf_wp T_M_load (2, [l0, l1, some (.inl x)], st, w) Q ↔ cf_wp T_M_load (3, [l0, l1, some (.inl x)], .inl x :: st, w) Q := cf_w1 rfl
theorem r_M_load_3 {l0 l1 l2 : Option cf_AV} {st : List cf_AV} {w : cf_Wd} {Q : cf_Rs → Prop} : cf_wp T_M_load (3, [l0, l1, l2], st, w) Q ↔ cf_wp T_M_load (6, [l0, l1, l2], .inl 255 :: st, w) Q := cf_w1 rfl
theorem r_M_load_6 {l0 l1 l2 : Option cf_AV} {a3 a2 : Int32} {w : cf_Wd} {Q : cf_Rs → Prop} : cf_wp T_M_load (6, [l0, l1, l2], [.inl a3, .inl a2, .inr 1, .inr 5], w) Q ↔ ∃ w1, F_M_loadLines [.inr 5, .inr 1, .inl a2, .inl a3] w = some (none, w1) ∧ cf_wp T_M_load (9, [l0, l1, l2], [], w1) Q := cf_wcv (n := 4) (F := F_M_loadLines) (nx := 9) rfl rfl cf_F_v
theorem c_M_load_6 {l0 l1 l2 : Option cf_AV} {a3 a2 : Int32} {w1 : cf_Wd} {w : cf_Wd} {Q : cf_Rs → Prop} (hs : F_M_loadLines [.inr 5, .inr 1, .inl a2, .inl a3] w = some (none, w1)) : cf_wp T_M_load (6, [l0, l1, l2], [.inl a3, .inl a2, .inr 1, .inr 5], w) Q ↔ cf_wp T_M_load (9, [l0, l1, l2], [], w1) Q := r_M_load_6.trans (cf_xv hs)
theorem r_M_load_9 {l0 l1 l2 : Option cf_AV} {w : cf_Wd} {P : cf_Wd → Prop} : cf_wp T_M_load (9, [l0, l1, l2], [], w) (cf_qv P) ↔ P w := Iff.trans (cf_wr (q := (none, w)) rfl) Iff.rfl
theorem e_M_load {a2 : Int32} {w : cf_Wd} {P : cf_Wd → Prop} (h : cf_wp T_M_load (0, [some (.inr 5), some (.inr 1), some (.inl a2)], [], w) (cf_qv P)) : ∃ w1, F_M_load [.inr 5, .inr 1, .inl a2] w = some (none, w1) ∧ P w1 := cf_ev rfl (Nat.le_of_ble_eq_true rfl) h
noncomputable def T_M_operation (pc : Nat) : cf_Rw := bif Nat.ble pc 1 then
 (bif Nat.ble pc 0 then
  (bif Nat.beq pc 0 then cf_iload 0 1 else cf_stuck)
  else
  (bif Nat.beq pc 1 then cf_const 100 3 else cf_stuck))
 else
 (bif Nat.ble pc 3 then
  (bif Nat.beq pc 3 then cf_div 4 else cf_stuck)
  else
  (bif Nat.beq pc 4 then cf_iret else cf_stuck))
noncomputable def F_M_operation : List cf_AV → cf_Wd → Option cf_Rs := cf_F T_M_operation 1 (some .int) (cf_shS 1)
theorem r_M_operation_0 {x : Int32} {st : List cf_AV} {w : cf_Wd} {Q : cf_Rs → Prop} : cf_wp T_M_operation (0, [some (.inl x)], st, w) Q ↔ cf_wp T_M_operation (1, [some (.inl x)], .inl x :: st, w) Q := cf_w1 rfl
theorem r_M_operation_1 {l0 : Option cf_AV} {st : List cf_AV} {w : cf_Wd} {Q : cf_Rs → Prop} : cf_wp T_M_operation (1, [l0], st, w) Q ↔ cf_wp T_M_operation (3, [l0], .inl 100 :: st, w) Q := cf_w1 rfl
theorem r_M_operation_3 {l0 : Option cf_AV} {x y : Int32} {st : List cf_AV} {w : cf_Wd} {Q : cf_Rs → Prop} : cf_wp T_M_operation (3, [l0], .inl y :: .inl x :: st, w) Q ↔ ((!(y == 0)) = true ∧ cf_wp T_M_operation (4, [l0], .inl (x / y) :: st, w) Q) := cf_wg rfl
theorem r_M_operation_4 {l0 : Option cf_AV} {x : Int32} {w : cf_Wd} {P : Int32 → cf_Wd → Prop} : cf_wp T_M_operation (4, [l0], [.inl x], w) (cf_qi P) ↔ P x w := Iff.trans (cf_wr (q := (some (.inl x), w)) rfl) Iff.rfl
theorem e_M_operation {a0 : Int32} {w : cf_Wd} {P : Int32 → cf_Wd → Prop} (h : cf_wp T_M_operation (0, [some (.inl a0)], [], w) (cf_qi P)) : ∃ x w1, F_M_operation [.inl a0] w = some (some (.inl x), w1) ∧ P x w1 := cf_ei rfl (Nat.le_of_ble_eq_true rfl) h
noncomputable def T_M_hasOperations (pc : Nat) : cf_Rw := bif Nat.ble pc 13 then
 (bif Nat.ble pc 3 then
  (bif Nat.ble pc 1 then
   (bif Nat.ble pc 0 then
    (bif Nat.beq pc 0 then cf_const 0 1 else cf_stuck)
    else
    (bif Nat.beq pc 1 then cf_istore 1 2 else cf_stuck))
   else
   (bif Nat.ble pc 2 then
    (bif Nat.beq pc 2 then cf_iload 1 3 else cf_stuck)
    else
    (bif Nat.beq pc 3 then cf_const 8 5 else cf_stuck)))
  else
  (bif Nat.ble pc 8 then
   (bif Nat.ble pc 5 then
    (bif Nat.beq pc 5 then cf_icge 30 8 else cf_stuck)
    else
    (bif Nat.beq pc 8 then cf_aload 0 9 else cf_stuck))
   else
   (bif Nat.ble pc 9 then
    (bif Nat.beq pc 9 then cf_get 1 0 12 else cf_stuck)
    else
    (bif Nat.ble pc 12 then
     (bif Nat.beq pc 12 then cf_iload 1 13 else cf_stuck)
     else
     (bif Nat.beq pc 13 then cf_iald 14 else cf_stuck)))))
 else
 (bif Nat.ble pc 22 then
  (bif Nat.ble pc 17 then
   (bif Nat.ble pc 14 then
    (bif Nat.beq pc 14 then cf_call 1 F_M_operation 17 else cf_stuck)
    else
    (bif Nat.beq pc 17 then cf_const 9 19 else cf_stuck))
   else
   (bif Nat.ble pc 19 then
    (bif Nat.beq pc 19 then cf_icne 24 22 else cf_stuck)
    else
    (bif Nat.beq pc 22 then cf_const 0 23 else cf_stuck)))
  else
  (bif Nat.ble pc 24 then
   (bif Nat.ble pc 23 then
    (bif Nat.beq pc 23 then cf_iret else cf_stuck)
    else
    (bif Nat.beq pc 24 then cf_iinc 1 1 27 else cf_stuck))
   else
   (bif Nat.ble pc 27 then
    (bif Nat.beq pc 27 then cf_goto 2 else cf_stuck)
    else
    (bif Nat.ble pc 30 then
     (bif Nat.beq pc 30 then cf_const 1 31 else cf_stuck)
     else
     (bif Nat.beq pc 31 then cf_iret else cf_stuck)))))
noncomputable def F_M_hasOperations : List cf_AV → cf_Wd → Option cf_Rs := cf_F T_M_hasOperations 2 (some .boolean) (cf_shV 5 0)
theorem r_M_hasOperations_0 {l0 l1 : Option cf_AV} {st : List cf_AV} {w : cf_Wd} {Q : cf_Rs → Prop} : cf_wp T_M_hasOperations (0, [l0, l1], st, w) Q ↔ cf_wp T_M_hasOperations (1, [l0, l1], .inl 0 :: st, w) Q := cf_w1 rfl
theorem r_M_hasOperations_1 {l0 l1 : Option cf_AV} {x : Int32} {st : List cf_AV} {w : cf_Wd} {Q : cf_Rs → Prop} : cf_wp T_M_hasOperations (1, [l0, l1], .inl x :: st, w) Q ↔ cf_wp T_M_hasOperations (2, [l0, some (.inl x)], st, w) Q := cf_w1 rfl
theorem r_M_hasOperations_2 {l0 : Option cf_AV} {x : Int32} {st : List cf_AV} {w : cf_Wd} {Q : cf_Rs → Prop} : cf_wp T_M_hasOperations (2, [l0, some (.inl x)], st, w) Q ↔ cf_wp T_M_hasOperations (3, [l0, some (.inl x)], .inl x :: st, w) Q := cf_w1 rfl
theorem r_M_hasOperations_3 {l0 l1 : Option cf_AV} {st : List cf_AV} {w : cf_Wd} {Q : cf_Rs → Prop} : cf_wp T_M_hasOperations (3, [l0, l1], st, w) Q ↔ cf_wp T_M_hasOperations (5, [l0, l1], .inl 8 :: st, w) Q := cf_w1 rfl
theorem r_M_hasOperations_5 {l0 l1 : Option cf_AV} {x y : Int32} {st : List cf_AV} {w : cf_Wd} {Q : cf_Rs → Prop} : cf_wp T_M_hasOperations (5, [l0, l1], .inl y :: .inl x :: st, w) Q ↔ (if y ≤ x then cf_wp T_M_hasOperations (30, [l0, l1], st, w) Q else cf_wp T_M_hasOperations (8, [l0, l1], st, w) Q) := cf_wi rfl
theorem r_M_hasOperations_8 {l1 : Option cf_AV} {k : Nat} {st : List cf_AV} {w : cf_Wd} {Q : cf_Rs → Prop} : cf_wp T_M_hasOperations (8, [some (.inr k), l1], st, w) Q ↔ cf_wp T_M_hasOperations (9, [some (.inr k), l1], .inr k :: st, w) Q := cf_w1 rfl
theorem r_M_hasOperations_9 {l0 l1 : Option cf_AV} {st : List cf_AV} {w : cf_Wd} {Q : cf_Rs → Prop} : cf_wp T_M_hasOperations (9, [l0, l1], .inr 5 :: st, w) Q ↔ cf_wp T_M_hasOperations (12, [l0, l1], .inr 6 :: st, w) Q := cf_w1 rfl
theorem r_M_hasOperations_12 {l0 : Option cf_AV} {x : Int32} {st : List cf_AV} {w : cf_Wd} {Q : cf_Rs → Prop} : cf_wp T_M_hasOperations (12, [l0, some (.inl x)], st, w) Q ↔ cf_wp T_M_hasOperations (13, [l0, some (.inl x)], .inl x :: st, w) Q := cf_w1 rfl
theorem r_M_hasOperations_13 {l0 l1 : Option cf_AV} {i : Int32} {st : List cf_AV} {w : cf_Wd} {Q : cf_Rs → Prop} : cf_wp T_M_hasOperations (13, [l0, l1], .inl i :: .inr 6 :: st, w) Q ↔ (cf_in i 8 = true ∧ cf_wp T_M_hasOperations (14, [l0, l1], .inl (w 6 i.toNatClampNeg) :: st, w) Q) := cf_wg rfl
theorem r_M_hasOperations_14 {l0 l1 : Option cf_AV} {a0 : Int32} {w : cf_Wd} {Q : cf_Rs → Prop} : cf_wp T_M_hasOperations (14, [l0, l1], [.inl a0], w) Q ↔ ∃ x w1, F_M_operation [.inl a0] w = some (some (.inl x), w1) ∧ cf_wp T_M_hasOperations (17, [l0, l1], [.inl x], w1) Q := cf_wci (n := 1) (F := F_M_operation) (nx := 17) rfl rfl cf_F_i
theorem c_M_hasOperations_14 {l0 l1 : Option cf_AV} {a0 : Int32} {x1 : Int32} {w1 : cf_Wd} {w : cf_Wd} {Q : cf_Rs → Prop} (hs : F_M_operation [.inl a0] w = some (some (.inl x1), w1)) : cf_wp T_M_hasOperations (14, [l0, l1], [.inl a0], w) Q ↔ cf_wp T_M_hasOperations (17, [l0, l1], [.inl x1], w1) Q := r_M_hasOperations_14.trans (cf_xi hs)
theorem r_M_hasOperations_17 {l0 l1 : Option cf_AV} {st : List cf_AV} {w : cf_Wd} {Q : cf_Rs → Prop} : cf_wp T_M_hasOperations (17, [l0, l1], st, w) Q ↔ cf_wp T_M_hasOperations (19, [l0, l1], .inl 9 :: st, w) Q := cf_w1 rfl
theorem r_M_hasOperations_19 {l0 l1 : Option cf_AV} {x y : Int32} {st : List cf_AV} {w : cf_Wd} {Q : cf_Rs → Prop} : cf_wp T_M_hasOperations (19, [l0, l1], .inl y :: .inl x :: st, w) Q ↔ (if ¬ x = y then cf_wp T_M_hasOperations (24, [l0, l1], st, w) Q else cf_wp T_M_hasOperations (22, [l0, l1], st, w) Q) := cf_wi rfl
theorem r_M_hasOperations_22 {l0 l1 : Option cf_AV} {st : List cf_AV} {w : cf_Wd} {Q : cf_Rs → Prop} : cf_wp T_M_hasOperations (22, [l0, l1], st, w) Q ↔ cf_wp T_M_hasOperations (23, [l0, l1], .inl 0 :: st, w) Q := cf_w1 rfl
theorem r_M_hasOperations_23 {l0 l1 : Option cf_AV} {x : Int32} {w : cf_Wd} {P : Int32 → cf_Wd → Prop} : cf_wp T_M_hasOperations (23, [l0, l1], [.inl x], w) (cf_qb P) ↔ ((x = 0 ∨ x = 1) ∧ P x w) := Iff.trans (cf_wr (q := (some (.inl x), w)) rfl) Iff.rfl
theorem r_M_hasOperations_24 {l0 : Option cf_AV} {x : Int32} {st : List cf_AV} {w : cf_Wd} {Q : cf_Rs → Prop} : cf_wp T_M_hasOperations (24, [l0, some (.inl x)], st, w) Q ↔ cf_wp T_M_hasOperations (27, [l0, some (.inl (x + 1))], st, w) Q := cf_w1 rfl
theorem r_M_hasOperations_27 {l0 l1 : Option cf_AV} {st : List cf_AV} {w : cf_Wd} {Q : cf_Rs → Prop} : cf_wp T_M_hasOperations (27, [l0, l1], st, w) Q ↔ cf_wp T_M_hasOperations (2, [l0, l1], st, w) Q := cf_w1 rfl
theorem r_M_hasOperations_30 {l0 l1 : Option cf_AV} {st : List cf_AV} {w : cf_Wd} {Q : cf_Rs → Prop} : cf_wp T_M_hasOperations (30, [l0, l1], st, w) Q ↔ cf_wp T_M_hasOperations (31, [l0, l1], .inl 1 :: st, w) Q := cf_w1 rfl
theorem r_M_hasOperations_31 {l0 l1 : Option cf_AV} {x : Int32} {w : cf_Wd} {P : Int32 → cf_Wd → Prop} : cf_wp T_M_hasOperations (31, [l0, l1], [.inl x], w) (cf_qb P) ↔ ((x = 0 ∨ x = 1) ∧ P x w) := Iff.trans (cf_wr (q := (some (.inl x), w)) rfl) Iff.rfl
theorem e_M_hasOperations {w : cf_Wd} {P : Int32 → cf_Wd → Prop} (h : cf_wp T_M_hasOperations (0, [some (.inr 5), none], [], w) (cf_qb P)) : ∃ x w1, F_M_hasOperations [.inr 5] w = some (some (.inl x), w1) ∧ P x w1 := cf_eb rfl (Nat.le_of_ble_eq_true rfl) h
noncomputable def T_M_pairsBlocks (pc : Nat) : cf_Rw := bif Nat.ble pc 46 then
 (bif Nat.ble pc 20 then
  (bif Nat.ble pc 7 then
   (bif Nat.ble pc 2 then
    (bif Nat.ble pc 0 then
     (bif Nat.beq pc 0 then cf_const 0 1 else cf_stuck)
     else
     (bif Nat.ble pc 1 then
      (bif Nat.beq pc 1 then cf_istore 1 2 else cf_stuck)
      else
      (bif Nat.beq pc 2 then cf_const 0 3 else cf_stuck)))
    else
    (bif Nat.ble pc 4 then
     (bif Nat.ble pc 3 then
      (bif Nat.beq pc 3 then cf_istore 2 4 else cf_stuck)
      else
      (bif Nat.beq pc 4 then cf_iload 2 5 else cf_stuck))
     else
     (bif Nat.ble pc 5 then
      (bif Nat.beq pc 5 then cf_const 8 7 else cf_stuck)
      else
      (bif Nat.beq pc 7 then cf_icge 88 10 else cf_stuck))))
   else
   (bif Nat.ble pc 14 then
    (bif Nat.ble pc 10 then
     (bif Nat.beq pc 10 then cf_aload 0 11 else cf_stuck)
     else
     (bif Nat.ble pc 11 then
      (bif Nat.beq pc 11 then cf_get 1 0 14 else cf_stuck)
      else
      (bif Nat.beq pc 14 then cf_iload 2 15 else cf_stuck)))
    else
    (bif Nat.ble pc 16 then
     (bif Nat.ble pc 15 then
      (bif Nat.beq pc 15 then cf_iald 16 else cf_stuck)
      else
      (bif Nat.beq pc 16 then cf_call 1 F_M_operation 19 else cf_stuck))
     else
     (bif Nat.ble pc 19 then
      (bif Nat.beq pc 19 then cf_istore 3 20 else cf_stuck)
      else
      (bif Nat.beq pc 20 then cf_iload 3 21 else cf_stuck)))))
  else
  (bif Nat.ble pc 31 then
   (bif Nat.ble pc 25 then
    (bif Nat.ble pc 21 then
     (bif Nat.beq pc 21 then cf_const 4 22 else cf_stuck)
     else
     (bif Nat.ble pc 22 then
      (bif Nat.beq pc 22 then cf_iceq 30 25 else cf_stuck)
      else
      (bif Nat.beq pc 25 then cf_iload 3 26 else cf_stuck)))
    else
    (bif Nat.ble pc 27 then
     (bif Nat.ble pc 26 then
      (bif Nat.beq pc 26 then cf_const 5 27 else cf_stuck)
      else
      (bif Nat.beq pc 27 then cf_icne 43 30 else cf_stuck))
     else
     (bif Nat.ble pc 30 then
      (bif Nat.beq pc 30 then cf_aload 0 31 else cf_stuck)
      else
      (bif Nat.beq pc 31 then cf_get 1 2 34 else cf_stuck))))
   else
   (bif Nat.ble pc 37 then
    (bif Nat.ble pc 35 then
     (bif Nat.ble pc 34 then
      (bif Nat.beq pc 34 then cf_iload 1 35 else cf_stuck)
      else
      (bif Nat.beq pc 35 then cf_iload 2 36 else cf_stuck))
     else
     (bif Nat.ble pc 36 then
      (bif Nat.beq pc 36 then cf_iast 37 else cf_stuck)
      else
      (bif Nat.beq pc 37 then cf_iinc 1 1 40 else cf_stuck)))
    else
    (bif Nat.ble pc 43 then
     (bif Nat.ble pc 40 then
      (bif Nat.beq pc 40 then cf_goto 82 else cf_stuck)
      else
      (bif Nat.beq pc 43 then cf_iload 3 44 else cf_stuck))
     else
     (bif Nat.ble pc 44 then
      (bif Nat.beq pc 44 then cf_const 6 46 else cf_stuck)
      else
      (bif Nat.beq pc 46 then cf_icne 82 49 else cf_stuck))))))
 else
 (bif Nat.ble pc 70 then
  (bif Nat.ble pc 59 then
   (bif Nat.ble pc 53 then
    (bif Nat.ble pc 49 then
     (bif Nat.beq pc 49 then cf_iload 1 50 else cf_stuck)
     else
     (bif Nat.ble pc 50 then
      (bif Nat.beq pc 50 then cf_ifne 55 53 else cf_stuck)
      else
      (bif Nat.beq pc 53 then cf_const 0 54 else cf_stuck)))
    else
    (bif Nat.ble pc 55 then
     (bif Nat.ble pc 54 then
      (bif Nat.beq pc 54 then cf_iret else cf_stuck)
      else
      (bif Nat.beq pc 55 then cf_iinc 1 (-1) 58 else cf_stuck))
     else
     (bif Nat.ble pc 58 then
      (bif Nat.beq pc 58 then cf_aload 0 59 else cf_stuck)
      else
      (bif Nat.beq pc 59 then cf_get 1 1 62 else cf_stuck))))
   else
   (bif Nat.ble pc 64 then
    (bif Nat.ble pc 62 then
     (bif Nat.beq pc 62 then cf_iload 2 63 else cf_stuck)
     else
     (bif Nat.ble pc 63 then
      (bif Nat.beq pc 63 then cf_aload 0 64 else cf_stuck)
      else
      (bif Nat.beq pc 64 then cf_get 1 2 67 else cf_stuck)))
    else
    (bif Nat.ble pc 68 then
     (bif Nat.ble pc 67 then
      (bif Nat.beq pc 67 then cf_iload 1 68 else cf_stuck)
      else
      (bif Nat.beq pc 68 then cf_iald 69 else cf_stuck))
     else
     (bif Nat.ble pc 69 then
      (bif Nat.beq pc 69 then cf_iast 70 else cf_stuck)
      else
      (bif Nat.beq pc 70 then cf_aload 0 71 else cf_stuck)))))
  else
  (bif Nat.ble pc 81 then
   (bif Nat.ble pc 75 then
    (bif Nat.ble pc 71 then
     (bif Nat.beq pc 71 then cf_get 1 1 74 else cf_stuck)
     else
     (bif Nat.ble pc 74 then
      (bif Nat.beq pc 74 then cf_aload 0 75 else cf_stuck)
      else
      (bif Nat.beq pc 75 then cf_get 1 2 78 else cf_stuck)))
    else
    (bif Nat.ble pc 79 then
     (bif Nat.ble pc 78 then
      (bif Nat.beq pc 78 then cf_iload 1 79 else cf_stuck)
      else
      (bif Nat.beq pc 79 then cf_iald 80 else cf_stuck))
     else
     (bif Nat.ble pc 80 then
      (bif Nat.beq pc 80 then cf_iload 2 81 else cf_stuck)
      else
      (bif Nat.beq pc 81 then cf_iast 82 else cf_stuck))))
   else
   (bif Nat.ble pc 89 then
    (bif Nat.ble pc 85 then
     (bif Nat.ble pc 82 then
      (bif Nat.beq pc 82 then cf_iinc 2 1 85 else cf_stuck)
      else
      (bif Nat.beq pc 85 then cf_goto 4 else cf_stuck))
     else
     (bif Nat.ble pc 88 then
      (bif Nat.beq pc 88 then cf_iload 1 89 else cf_stuck)
      else
      (bif Nat.beq pc 89 then cf_ifne 96 92 else cf_stuck)))
    else
    (bif Nat.ble pc 93 then
     (bif Nat.ble pc 92 then
      (bif Nat.beq pc 92 then cf_const 1 93 else cf_stuck)
      else
      (bif Nat.beq pc 93 then cf_goto 97 else cf_stuck))
     else
     (bif Nat.ble pc 96 then
      (bif Nat.beq pc 96 then cf_const 0 97 else cf_stuck)
      else
      (bif Nat.beq pc 97 then cf_iret else cf_stuck))))))
noncomputable def F_M_pairsBlocks : List cf_AV → cf_Wd → Option cf_Rs := cf_F T_M_pairsBlocks 4 (some .boolean) (cf_shV 5 0)
theorem r_M_pairsBlocks_0 {l0 l1 l2 l3 : Option cf_AV} {st : List cf_AV} {w : cf_Wd} {Q : cf_Rs → Prop} : cf_wp T_M_pairsBlocks (0, [l0, l1, l2, l3], st, w) Q ↔ cf_wp T_M_pairsBlocks (1, [l0, l1, l2, l3], .inl 0 :: st, w) Q := cf_w1 rfl
theorem r_M_pairsBlocks_1 {l0 l1 l2 l3 : Option cf_AV} {x : Int32} {st : List cf_AV} {w : cf_Wd} {Q : cf_Rs → Prop} : cf_wp T_M_pairsBlocks (1, [l0, l1, l2, l3], .inl x :: st, w) Q ↔ cf_wp T_M_pairsBlocks (2, [l0, some (.inl x), l2, l3], st, w) Q := cf_w1 rfl
theorem r_M_pairsBlocks_2 {l0 l1 l2 l3 : Option cf_AV} {st : List cf_AV} {w : cf_Wd} {Q : cf_Rs → Prop} : cf_wp T_M_pairsBlocks (2, [l0, l1, l2, l3], st, w) Q ↔ cf_wp T_M_pairsBlocks (3, [l0, l1, l2, l3], .inl 0 :: st, w) Q := cf_w1 rfl
theorem r_M_pairsBlocks_3 {l0 l1 l2 l3 : Option cf_AV} {x : Int32} {st : List cf_AV} {w : cf_Wd} {Q : cf_Rs → Prop} : cf_wp T_M_pairsBlocks (3, [l0, l1, l2, l3], .inl x :: st, w) Q ↔ cf_wp T_M_pairsBlocks (4, [l0, l1, some (.inl x), l3], st, w) Q := cf_w1 rfl
theorem r_M_pairsBlocks_4 {l0 l1 l3 : Option cf_AV} {x : Int32} {st : List cf_AV} {w : cf_Wd} {Q : cf_Rs → Prop} : cf_wp T_M_pairsBlocks (4, [l0, l1, some (.inl x), l3], st, w) Q ↔ cf_wp T_M_pairsBlocks (5, [l0, l1, some (.inl x), l3], .inl x :: st, w) Q := cf_w1 rfl
theorem r_M_pairsBlocks_5 {l0 l1 l2 l3 : Option cf_AV} {st : List cf_AV} {w : cf_Wd} {Q : cf_Rs → Prop} : cf_wp T_M_pairsBlocks (5, [l0, l1, l2, l3], st, w) Q ↔ cf_wp T_M_pairsBlocks (7, [l0, l1, l2, l3], .inl 8 :: st, w) Q := cf_w1 rfl
theorem r_M_pairsBlocks_7 {l0 l1 l2 l3 : Option cf_AV} {x y : Int32} {st : List cf_AV} {w : cf_Wd} {Q : cf_Rs → Prop} : cf_wp T_M_pairsBlocks (7, [l0, l1, l2, l3], .inl y :: .inl x :: st, w) Q ↔ (if y ≤ x then cf_wp T_M_pairsBlocks (88, [l0, l1, l2, l3], st, w) Q else cf_wp T_M_pairsBlocks (10, [l0, l1, l2, l3], st, w) Q) := cf_wi rfl
theorem r_M_pairsBlocks_10 {l1 l2 l3 : Option cf_AV} {k : Nat} {st : List cf_AV} {w : cf_Wd} {Q : cf_Rs → Prop} : cf_wp T_M_pairsBlocks (10, [some (.inr k), l1, l2, l3], st, w) Q ↔ cf_wp T_M_pairsBlocks (11, [some (.inr k), l1, l2, l3], .inr k :: st, w) Q := cf_w1 rfl
theorem r_M_pairsBlocks_11 {l0 l1 l2 l3 : Option cf_AV} {st : List cf_AV} {w : cf_Wd} {Q : cf_Rs → Prop} : cf_wp T_M_pairsBlocks (11, [l0, l1, l2, l3], .inr 5 :: st, w) Q ↔ cf_wp T_M_pairsBlocks (14, [l0, l1, l2, l3], .inr 6 :: st, w) Q := cf_w1 rfl
theorem r_M_pairsBlocks_14 {l0 l1 l3 : Option cf_AV} {x : Int32} {st : List cf_AV} {w : cf_Wd} {Q : cf_Rs → Prop} : cf_wp T_M_pairsBlocks (14, [l0, l1, some (.inl x), l3], st, w) Q ↔ cf_wp T_M_pairsBlocks (15, [l0, l1, some (.inl x), l3], .inl x :: st, w) Q := cf_w1 rfl
theorem r_M_pairsBlocks_15 {l0 l1 l2 l3 : Option cf_AV} {i : Int32} {st : List cf_AV} {w : cf_Wd} {Q : cf_Rs → Prop} : cf_wp T_M_pairsBlocks (15, [l0, l1, l2, l3], .inl i :: .inr 6 :: st, w) Q ↔ (cf_in i 8 = true ∧ cf_wp T_M_pairsBlocks (16, [l0, l1, l2, l3], .inl (w 6 i.toNatClampNeg) :: st, w) Q) := cf_wg rfl
theorem r_M_pairsBlocks_16 {l0 l1 l2 l3 : Option cf_AV} {a0 : Int32} {w : cf_Wd} {Q : cf_Rs → Prop} : cf_wp T_M_pairsBlocks (16, [l0, l1, l2, l3], [.inl a0], w) Q ↔ ∃ x w1, F_M_operation [.inl a0] w = some (some (.inl x), w1) ∧ cf_wp T_M_pairsBlocks (19, [l0, l1, l2, l3], [.inl x], w1) Q := cf_wci (n := 1) (F := F_M_operation) (nx := 19) rfl rfl cf_F_i
theorem c_M_pairsBlocks_16 {l0 l1 l2 l3 : Option cf_AV} {a0 : Int32} {x1 : Int32} {w1 : cf_Wd} {w : cf_Wd} {Q : cf_Rs → Prop} (hs : F_M_operation [.inl a0] w = some (some (.inl x1), w1)) : cf_wp T_M_pairsBlocks (16, [l0, l1, l2, l3], [.inl a0], w) Q ↔ cf_wp T_M_pairsBlocks (19, [l0, l1, l2, l3], [.inl x1], w1) Q := r_M_pairsBlocks_16.trans (cf_xi hs)
theorem r_M_pairsBlocks_19 {l0 l1 l2 l3 : Option cf_AV} {x : Int32} {st : List cf_AV} {w : cf_Wd} {Q : cf_Rs → Prop} : cf_wp T_M_pairsBlocks (19, [l0, l1, l2, l3], .inl x :: st, w) Q ↔ cf_wp T_M_pairsBlocks (20, [l0, l1, l2, some (.inl x)], st, w) Q := cf_w1 rfl
theorem r_M_pairsBlocks_20 {l0 l1 l2 : Option cf_AV} {x : Int32} {st : List cf_AV} {w : cf_Wd} {Q : cf_Rs → Prop} : cf_wp T_M_pairsBlocks (20, [l0, l1, l2, some (.inl x)], st, w) Q ↔ cf_wp T_M_pairsBlocks (21, [l0, l1, l2, some (.inl x)], .inl x :: st, w) Q := cf_w1 rfl
theorem r_M_pairsBlocks_21 {l0 l1 l2 l3 : Option cf_AV} {st : List cf_AV} {w : cf_Wd} {Q : cf_Rs → Prop} : cf_wp T_M_pairsBlocks (21, [l0, l1, l2, l3], st, w) Q ↔ cf_wp T_M_pairsBlocks (22, [l0, l1, l2, l3], .inl 4 :: st, w) Q := cf_w1 rfl
theorem r_M_pairsBlocks_22 {l0 l1 l2 l3 : Option cf_AV} {x y : Int32} {st : List cf_AV} {w : cf_Wd} {Q : cf_Rs → Prop} : cf_wp T_M_pairsBlocks (22, [l0, l1, l2, l3], .inl y :: .inl x :: st, w) Q ↔ (if x = y then cf_wp T_M_pairsBlocks (30, [l0, l1, l2, l3], st, w) Q else cf_wp T_M_pairsBlocks (25, [l0, l1, l2, l3], st, w) Q) := cf_wi rfl
theorem r_M_pairsBlocks_25 {l0 l1 l2 : Option cf_AV} {x : Int32} {st : List cf_AV} {w : cf_Wd} {Q : cf_Rs → Prop} : cf_wp T_M_pairsBlocks (25, [l0, l1, l2, some (.inl x)], st, w) Q ↔ cf_wp T_M_pairsBlocks (26, [l0, l1, l2, some (.inl x)], .inl x :: st, w) Q := cf_w1 rfl
theorem r_M_pairsBlocks_26 {l0 l1 l2 l3 : Option cf_AV} {st : List cf_AV} {w : cf_Wd} {Q : cf_Rs → Prop} : cf_wp T_M_pairsBlocks (26, [l0, l1, l2, l3], st, w) Q ↔ cf_wp T_M_pairsBlocks (27, [l0, l1, l2, l3], .inl 5 :: st, w) Q := cf_w1 rfl
theorem r_M_pairsBlocks_27 {l0 l1 l2 l3 : Option cf_AV} {x y : Int32} {st : List cf_AV} {w : cf_Wd} {Q : cf_Rs → Prop} : cf_wp T_M_pairsBlocks (27, [l0, l1, l2, l3], .inl y :: .inl x :: st, w) Q ↔ (if ¬ x = y then cf_wp T_M_pairsBlocks (43, [l0, l1, l2, l3], st, w) Q else cf_wp T_M_pairsBlocks (30, [l0, l1, l2, l3], st, w) Q) := cf_wi rfl
theorem r_M_pairsBlocks_30 {l1 l2 l3 : Option cf_AV} {k : Nat} {st : List cf_AV} {w : cf_Wd} {Q : cf_Rs → Prop} : cf_wp T_M_pairsBlocks (30, [some (.inr k), l1, l2, l3], st, w) Q ↔ cf_wp T_M_pairsBlocks (31, [some (.inr k), l1, l2, l3], .inr k :: st, w) Q := cf_w1 rfl
theorem r_M_pairsBlocks_31 {l0 l1 l2 l3 : Option cf_AV} {st : List cf_AV} {w : cf_Wd} {Q : cf_Rs → Prop} : cf_wp T_M_pairsBlocks (31, [l0, l1, l2, l3], .inr 5 :: st, w) Q ↔ cf_wp T_M_pairsBlocks (34, [l0, l1, l2, l3], .inr 8 :: st, w) Q := cf_w1 rfl
theorem r_M_pairsBlocks_34 {l0 l2 l3 : Option cf_AV} {x : Int32} {st : List cf_AV} {w : cf_Wd} {Q : cf_Rs → Prop} : cf_wp T_M_pairsBlocks (34, [l0, some (.inl x), l2, l3], st, w) Q ↔ cf_wp T_M_pairsBlocks (35, [l0, some (.inl x), l2, l3], .inl x :: st, w) Q := cf_w1 rfl
theorem r_M_pairsBlocks_35 {l0 l1 l3 : Option cf_AV} {x : Int32} {st : List cf_AV} {w : cf_Wd} {Q : cf_Rs → Prop} : cf_wp T_M_pairsBlocks (35, [l0, l1, some (.inl x), l3], st, w) Q ↔ cf_wp T_M_pairsBlocks (36, [l0, l1, some (.inl x), l3], .inl x :: st, w) Q := cf_w1 rfl
theorem r_M_pairsBlocks_36 {l0 l1 l2 l3 : Option cf_AV} {x i : Int32} {st : List cf_AV} {w : cf_Wd} {Q : cf_Rs → Prop} : cf_wp T_M_pairsBlocks (36, [l0, l1, l2, l3], .inl x :: .inl i :: .inr 8 :: st, w) Q ↔ (cf_in i 8 = true ∧ cf_wp T_M_pairsBlocks (37, [l0, l1, l2, l3], st, (cf_wa w 8 (upd (w 8) i.toNatClampNeg x))) Q) := cf_wg rfl
theorem r_M_pairsBlocks_37 {l0 l2 l3 : Option cf_AV} {x : Int32} {st : List cf_AV} {w : cf_Wd} {Q : cf_Rs → Prop} : cf_wp T_M_pairsBlocks (37, [l0, some (.inl x), l2, l3], st, w) Q ↔ cf_wp T_M_pairsBlocks (40, [l0, some (.inl (x + 1)), l2, l3], st, w) Q := cf_w1 rfl
theorem r_M_pairsBlocks_40 {l0 l1 l2 l3 : Option cf_AV} {st : List cf_AV} {w : cf_Wd} {Q : cf_Rs → Prop} : cf_wp T_M_pairsBlocks (40, [l0, l1, l2, l3], st, w) Q ↔ cf_wp T_M_pairsBlocks (82, [l0, l1, l2, l3], st, w) Q := cf_w1 rfl
theorem r_M_pairsBlocks_43 {l0 l1 l2 : Option cf_AV} {x : Int32} {st : List cf_AV} {w : cf_Wd} {Q : cf_Rs → Prop} : cf_wp T_M_pairsBlocks (43, [l0, l1, l2, some (.inl x)], st, w) Q ↔ cf_wp T_M_pairsBlocks (44, [l0, l1, l2, some (.inl x)], .inl x :: st, w) Q := cf_w1 rfl
theorem r_M_pairsBlocks_44 {l0 l1 l2 l3 : Option cf_AV} {st : List cf_AV} {w : cf_Wd} {Q : cf_Rs → Prop} : cf_wp T_M_pairsBlocks (44, [l0, l1, l2, l3], st, w) Q ↔ cf_wp T_M_pairsBlocks (46, [l0, l1, l2, l3], .inl 6 :: st, w) Q := cf_w1 rfl
theorem r_M_pairsBlocks_46 {l0 l1 l2 l3 : Option cf_AV} {x y : Int32} {st : List cf_AV} {w : cf_Wd} {Q : cf_Rs → Prop} : cf_wp T_M_pairsBlocks (46, [l0, l1, l2, l3], .inl y :: .inl x :: st, w) Q ↔ (if ¬ x = y then cf_wp T_M_pairsBlocks (82, [l0, l1, l2, l3], st, w) Q else cf_wp T_M_pairsBlocks (49, [l0, l1, l2, l3], st, w) Q) := cf_wi rfl
theorem r_M_pairsBlocks_49 {l0 l2 l3 : Option cf_AV} {x : Int32} {st : List cf_AV} {w : cf_Wd} {Q : cf_Rs → Prop} : cf_wp T_M_pairsBlocks (49, [l0, some (.inl x), l2, l3], st, w) Q ↔ cf_wp T_M_pairsBlocks (50, [l0, some (.inl x), l2, l3], .inl x :: st, w) Q := cf_w1 rfl
theorem r_M_pairsBlocks_50 {l0 l1 l2 l3 : Option cf_AV} {x : Int32} {st : List cf_AV} {w : cf_Wd} {Q : cf_Rs → Prop} : cf_wp T_M_pairsBlocks (50, [l0, l1, l2, l3], .inl x :: st, w) Q ↔ (if ¬ x = 0 then cf_wp T_M_pairsBlocks (55, [l0, l1, l2, l3], st, w) Q else cf_wp T_M_pairsBlocks (53, [l0, l1, l2, l3], st, w) Q) := cf_wi rfl
theorem r_M_pairsBlocks_53 {l0 l1 l2 l3 : Option cf_AV} {st : List cf_AV} {w : cf_Wd} {Q : cf_Rs → Prop} : cf_wp T_M_pairsBlocks (53, [l0, l1, l2, l3], st, w) Q ↔ cf_wp T_M_pairsBlocks (54, [l0, l1, l2, l3], .inl 0 :: st, w) Q := cf_w1 rfl
theorem r_M_pairsBlocks_54 {l0 l1 l2 l3 : Option cf_AV} {x : Int32} {w : cf_Wd} {P : Int32 → cf_Wd → Prop} : cf_wp T_M_pairsBlocks (54, [l0, l1, l2, l3], [.inl x], w) (cf_qb P) ↔ ((x = 0 ∨ x = 1) ∧ P x w) := Iff.trans (cf_wr (q := (some (.inl x), w)) rfl) Iff.rfl
theorem r_M_pairsBlocks_55 {l0 l2 l3 : Option cf_AV} {x : Int32} {st : List cf_AV} {w : cf_Wd} {Q : cf_Rs → Prop} : cf_wp T_M_pairsBlocks (55, [l0, some (.inl x), l2, l3], st, w) Q ↔ cf_wp T_M_pairsBlocks (58, [l0, some (.inl (x + (-1))), l2, l3], st, w) Q := cf_w1 rfl
theorem r_M_pairsBlocks_58 {l1 l2 l3 : Option cf_AV} {k : Nat} {st : List cf_AV} {w : cf_Wd} {Q : cf_Rs → Prop} : cf_wp T_M_pairsBlocks (58, [some (.inr k), l1, l2, l3], st, w) Q ↔ cf_wp T_M_pairsBlocks (59, [some (.inr k), l1, l2, l3], .inr k :: st, w) Q := cf_w1 rfl
theorem r_M_pairsBlocks_59 {l0 l1 l2 l3 : Option cf_AV} {st : List cf_AV} {w : cf_Wd} {Q : cf_Rs → Prop} : cf_wp T_M_pairsBlocks (59, [l0, l1, l2, l3], .inr 5 :: st, w) Q ↔ cf_wp T_M_pairsBlocks (62, [l0, l1, l2, l3], .inr 7 :: st, w) Q := cf_w1 rfl
theorem r_M_pairsBlocks_62 {l0 l1 l3 : Option cf_AV} {x : Int32} {st : List cf_AV} {w : cf_Wd} {Q : cf_Rs → Prop} : cf_wp T_M_pairsBlocks (62, [l0, l1, some (.inl x), l3], st, w) Q ↔ cf_wp T_M_pairsBlocks (63, [l0, l1, some (.inl x), l3], .inl x :: st, w) Q := cf_w1 rfl
theorem r_M_pairsBlocks_63 {l1 l2 l3 : Option cf_AV} {k : Nat} {st : List cf_AV} {w : cf_Wd} {Q : cf_Rs → Prop} : cf_wp T_M_pairsBlocks (63, [some (.inr k), l1, l2, l3], st, w) Q ↔ cf_wp T_M_pairsBlocks (64, [some (.inr k), l1, l2, l3], .inr k :: st, w) Q := cf_w1 rfl
theorem r_M_pairsBlocks_64 {l0 l1 l2 l3 : Option cf_AV} {st : List cf_AV} {w : cf_Wd} {Q : cf_Rs → Prop} : cf_wp T_M_pairsBlocks (64, [l0, l1, l2, l3], .inr 5 :: st, w) Q ↔ cf_wp T_M_pairsBlocks (67, [l0, l1, l2, l3], .inr 8 :: st, w) Q := cf_w1 rfl
theorem r_M_pairsBlocks_67 {l0 l2 l3 : Option cf_AV} {x : Int32} {st : List cf_AV} {w : cf_Wd} {Q : cf_Rs → Prop} : cf_wp T_M_pairsBlocks (67, [l0, some (.inl x), l2, l3], st, w) Q ↔ cf_wp T_M_pairsBlocks (68, [l0, some (.inl x), l2, l3], .inl x :: st, w) Q := cf_w1 rfl
theorem r_M_pairsBlocks_68 {l0 l1 l2 l3 : Option cf_AV} {i : Int32} {st : List cf_AV} {w : cf_Wd} {Q : cf_Rs → Prop} : cf_wp T_M_pairsBlocks (68, [l0, l1, l2, l3], .inl i :: .inr 8 :: st, w) Q ↔ (cf_in i 8 = true ∧ cf_wp T_M_pairsBlocks (69, [l0, l1, l2, l3], .inl (w 8 i.toNatClampNeg) :: st, w) Q) := cf_wg rfl
theorem r_M_pairsBlocks_69 {l0 l1 l2 l3 : Option cf_AV} {x i : Int32} {st : List cf_AV} {w : cf_Wd} {Q : cf_Rs → Prop} : cf_wp T_M_pairsBlocks (69, [l0, l1, l2, l3], .inl x :: .inl i :: .inr 7 :: st, w) Q ↔ (cf_in i 8 = true ∧ cf_wp T_M_pairsBlocks (70, [l0, l1, l2, l3], st, (cf_wa w 7 (upd (w 7) i.toNatClampNeg x))) Q) := cf_wg rfl
theorem r_M_pairsBlocks_70 {l1 l2 l3 : Option cf_AV} {k : Nat} {st : List cf_AV} {w : cf_Wd} {Q : cf_Rs → Prop} : cf_wp T_M_pairsBlocks (70, [some (.inr k), l1, l2, l3], st, w) Q ↔ cf_wp T_M_pairsBlocks (71, [some (.inr k), l1, l2, l3], .inr k :: st, w) Q := cf_w1 rfl
theorem r_M_pairsBlocks_71 {l0 l1 l2 l3 : Option cf_AV} {st : List cf_AV} {w : cf_Wd} {Q : cf_Rs → Prop} : cf_wp T_M_pairsBlocks (71, [l0, l1, l2, l3], .inr 5 :: st, w) Q ↔ cf_wp T_M_pairsBlocks (74, [l0, l1, l2, l3], .inr 7 :: st, w) Q := cf_w1 rfl
theorem r_M_pairsBlocks_74 {l1 l2 l3 : Option cf_AV} {k : Nat} {st : List cf_AV} {w : cf_Wd} {Q : cf_Rs → Prop} : cf_wp T_M_pairsBlocks (74, [some (.inr k), l1, l2, l3], st, w) Q ↔ cf_wp T_M_pairsBlocks (75, [some (.inr k), l1, l2, l3], .inr k :: st, w) Q := cf_w1 rfl
theorem r_M_pairsBlocks_75 {l0 l1 l2 l3 : Option cf_AV} {st : List cf_AV} {w : cf_Wd} {Q : cf_Rs → Prop} : cf_wp T_M_pairsBlocks (75, [l0, l1, l2, l3], .inr 5 :: st, w) Q ↔ cf_wp T_M_pairsBlocks (78, [l0, l1, l2, l3], .inr 8 :: st, w) Q := cf_w1 rfl
theorem r_M_pairsBlocks_78 {l0 l2 l3 : Option cf_AV} {x : Int32} {st : List cf_AV} {w : cf_Wd} {Q : cf_Rs → Prop} : cf_wp T_M_pairsBlocks (78, [l0, some (.inl x), l2, l3], st, w) Q ↔ cf_wp T_M_pairsBlocks (79, [l0, some (.inl x), l2, l3], .inl x :: st, w) Q := cf_w1 rfl
theorem r_M_pairsBlocks_79 {l0 l1 l2 l3 : Option cf_AV} {i : Int32} {st : List cf_AV} {w : cf_Wd} {Q : cf_Rs → Prop} : cf_wp T_M_pairsBlocks (79, [l0, l1, l2, l3], .inl i :: .inr 8 :: st, w) Q ↔ (cf_in i 8 = true ∧ cf_wp T_M_pairsBlocks (80, [l0, l1, l2, l3], .inl (w 8 i.toNatClampNeg) :: st, w) Q) := cf_wg rfl
theorem r_M_pairsBlocks_80 {l0 l1 l3 : Option cf_AV} {x : Int32} {st : List cf_AV} {w : cf_Wd} {Q : cf_Rs → Prop} : cf_wp T_M_pairsBlocks (80, [l0, l1, some (.inl x), l3], st, w) Q ↔ cf_wp T_M_pairsBlocks (81, [l0, l1, some (.inl x), l3], .inl x :: st, w) Q := cf_w1 rfl
theorem r_M_pairsBlocks_81 {l0 l1 l2 l3 : Option cf_AV} {x i : Int32} {st : List cf_AV} {w : cf_Wd} {Q : cf_Rs → Prop} : cf_wp T_M_pairsBlocks (81, [l0, l1, l2, l3], .inl x :: .inl i :: .inr 7 :: st, w) Q ↔ (cf_in i 8 = true ∧ cf_wp T_M_pairsBlocks (82, [l0, l1, l2, l3], st, (cf_wa w 7 (upd (w 7) i.toNatClampNeg x))) Q) := cf_wg rfl
theorem r_M_pairsBlocks_82 {l0 l1 l3 : Option cf_AV} {x : Int32} {st : List cf_AV} {w : cf_Wd} {Q : cf_Rs → Prop} : cf_wp T_M_pairsBlocks (82, [l0, l1, some (.inl x), l3], st, w) Q ↔ cf_wp T_M_pairsBlocks (85, [l0, l1, some (.inl (x + 1)), l3], st, w) Q := cf_w1 rfl
theorem r_M_pairsBlocks_85 {l0 l1 l2 l3 : Option cf_AV} {st : List cf_AV} {w : cf_Wd} {Q : cf_Rs → Prop} : cf_wp T_M_pairsBlocks (85, [l0, l1, l2, l3], st, w) Q ↔ cf_wp T_M_pairsBlocks (4, [l0, l1, l2, l3], st, w) Q := cf_w1 rfl
theorem r_M_pairsBlocks_88 {l0 l2 l3 : Option cf_AV} {x : Int32} {st : List cf_AV} {w : cf_Wd} {Q : cf_Rs → Prop} : cf_wp T_M_pairsBlocks (88, [l0, some (.inl x), l2, l3], st, w) Q ↔ cf_wp T_M_pairsBlocks (89, [l0, some (.inl x), l2, l3], .inl x :: st, w) Q := cf_w1 rfl
theorem r_M_pairsBlocks_89 {l0 l1 l2 l3 : Option cf_AV} {x : Int32} {st : List cf_AV} {w : cf_Wd} {Q : cf_Rs → Prop} : cf_wp T_M_pairsBlocks (89, [l0, l1, l2, l3], .inl x :: st, w) Q ↔ (if ¬ x = 0 then cf_wp T_M_pairsBlocks (96, [l0, l1, l2, l3], st, w) Q else cf_wp T_M_pairsBlocks (92, [l0, l1, l2, l3], st, w) Q) := cf_wi rfl
theorem r_M_pairsBlocks_92 {l0 l1 l2 l3 : Option cf_AV} {st : List cf_AV} {w : cf_Wd} {Q : cf_Rs → Prop} : cf_wp T_M_pairsBlocks (92, [l0, l1, l2, l3], st, w) Q ↔ cf_wp T_M_pairsBlocks (93, [l0, l1, l2, l3], .inl 1 :: st, w) Q := cf_w1 rfl
theorem r_M_pairsBlocks_93 {l0 l1 l2 l3 : Option cf_AV} {st : List cf_AV} {w : cf_Wd} {Q : cf_Rs → Prop} : cf_wp T_M_pairsBlocks (93, [l0, l1, l2, l3], st, w) Q ↔ cf_wp T_M_pairsBlocks (97, [l0, l1, l2, l3], st, w) Q := cf_w1 rfl
theorem r_M_pairsBlocks_96 {l0 l1 l2 l3 : Option cf_AV} {st : List cf_AV} {w : cf_Wd} {Q : cf_Rs → Prop} : cf_wp T_M_pairsBlocks (96, [l0, l1, l2, l3], st, w) Q ↔ cf_wp T_M_pairsBlocks (97, [l0, l1, l2, l3], .inl 0 :: st, w) Q := cf_w1 rfl
theorem r_M_pairsBlocks_97 {l0 l1 l2 l3 : Option cf_AV} {x : Int32} {w : cf_Wd} {P : Int32 → cf_Wd → Prop} : cf_wp T_M_pairsBlocks (97, [l0, l1, l2, l3], [.inl x], w) (cf_qb P) ↔ ((x = 0 ∨ x = 1) ∧ P x w) := Iff.trans (cf_wr (q := (some (.inl x), w)) rfl) Iff.rfl
theorem e_M_pairsBlocks {w : cf_Wd} {P : Int32 → cf_Wd → Prop} (h : cf_wp T_M_pairsBlocks (0, [some (.inr 5), none, none, none], [], w) (cf_qb P)) : ∃ x w1, F_M_pairsBlocks [.inr 5] w = some (some (.inl x), w1) ∧ P x w1 := cf_eb rfl (Nat.le_of_ble_eq_true rfl) h
noncomputable def T_M_left (pc : Nat) : cf_Rw := bif Nat.ble pc 3 then
 (bif Nat.ble pc 0 then
  (bif Nat.beq pc 0 then cf_iload 0 1 else cf_stuck)
  else
  (bif Nat.ble pc 1 then
   (bif Nat.beq pc 1 then cf_const 10 3 else cf_stuck)
   else
   (bif Nat.beq pc 3 then cf_div 4 else cf_stuck)))
 else
 (bif Nat.ble pc 4 then
  (bif Nat.beq pc 4 then cf_const 10 6 else cf_stuck)
  else
  (bif Nat.ble pc 6 then
   (bif Nat.beq pc 6 then cf_rem 7 else cf_stuck)
   else
   (bif Nat.beq pc 7 then cf_iret else cf_stuck)))
noncomputable def F_M_left : List cf_AV → cf_Wd → Option cf_Rs := cf_F T_M_left 1 (some .int) (cf_shS 1)
theorem r_M_left_0 {x : Int32} {st : List cf_AV} {w : cf_Wd} {Q : cf_Rs → Prop} : cf_wp T_M_left (0, [some (.inl x)], st, w) Q ↔ cf_wp T_M_left (1, [some (.inl x)], .inl x :: st, w) Q := cf_w1 rfl
theorem r_M_left_1 {l0 : Option cf_AV} {st : List cf_AV} {w : cf_Wd} {Q : cf_Rs → Prop} : cf_wp T_M_left (1, [l0], st, w) Q ↔ cf_wp T_M_left (3, [l0], .inl 10 :: st, w) Q := cf_w1 rfl
theorem r_M_left_3 {l0 : Option cf_AV} {x y : Int32} {st : List cf_AV} {w : cf_Wd} {Q : cf_Rs → Prop} : cf_wp T_M_left (3, [l0], .inl y :: .inl x :: st, w) Q ↔ ((!(y == 0)) = true ∧ cf_wp T_M_left (4, [l0], .inl (x / y) :: st, w) Q) := cf_wg rfl
theorem r_M_left_4 {l0 : Option cf_AV} {st : List cf_AV} {w : cf_Wd} {Q : cf_Rs → Prop} : cf_wp T_M_left (4, [l0], st, w) Q ↔ cf_wp T_M_left (6, [l0], .inl 10 :: st, w) Q := cf_w1 rfl
theorem r_M_left_6 {l0 : Option cf_AV} {x y : Int32} {st : List cf_AV} {w : cf_Wd} {Q : cf_Rs → Prop} : cf_wp T_M_left (6, [l0], .inl y :: .inl x :: st, w) Q ↔ ((!(y == 0)) = true ∧ cf_wp T_M_left (7, [l0], .inl (x - x / y * y) :: st, w) Q) := cf_wg rfl
theorem r_M_left_7 {l0 : Option cf_AV} {x : Int32} {w : cf_Wd} {P : Int32 → cf_Wd → Prop} : cf_wp T_M_left (7, [l0], [.inl x], w) (cf_qi P) ↔ P x w := Iff.trans (cf_wr (q := (some (.inl x), w)) rfl) Iff.rfl
theorem e_M_left {a0 : Int32} {w : cf_Wd} {P : Int32 → cf_Wd → Prop} (h : cf_wp T_M_left (0, [some (.inl a0)], [], w) (cf_qi P)) : ∃ x w1, F_M_left [.inl a0] w = some (some (.inl x), w1) ∧ P x w1 := cf_ei rfl (Nat.le_of_ble_eq_true rfl) h
noncomputable def T_M_right (pc : Nat) : cf_Rw := bif Nat.ble pc 1 then
 (bif Nat.ble pc 0 then
  (bif Nat.beq pc 0 then cf_iload 0 1 else cf_stuck)
  else
  (bif Nat.beq pc 1 then cf_const 10 3 else cf_stuck))
 else
 (bif Nat.ble pc 3 then
  (bif Nat.beq pc 3 then cf_rem 4 else cf_stuck)
  else
  (bif Nat.beq pc 4 then cf_iret else cf_stuck))
noncomputable def F_M_right : List cf_AV → cf_Wd → Option cf_Rs := cf_F T_M_right 1 (some .int) (cf_shS 1)
theorem r_M_right_0 {x : Int32} {st : List cf_AV} {w : cf_Wd} {Q : cf_Rs → Prop} : cf_wp T_M_right (0, [some (.inl x)], st, w) Q ↔ cf_wp T_M_right (1, [some (.inl x)], .inl x :: st, w) Q := cf_w1 rfl
theorem r_M_right_1 {l0 : Option cf_AV} {st : List cf_AV} {w : cf_Wd} {Q : cf_Rs → Prop} : cf_wp T_M_right (1, [l0], st, w) Q ↔ cf_wp T_M_right (3, [l0], .inl 10 :: st, w) Q := cf_w1 rfl
theorem r_M_right_3 {l0 : Option cf_AV} {x y : Int32} {st : List cf_AV} {w : cf_Wd} {Q : cf_Rs → Prop} : cf_wp T_M_right (3, [l0], .inl y :: .inl x :: st, w) Q ↔ ((!(y == 0)) = true ∧ cf_wp T_M_right (4, [l0], .inl (x - x / y * y) :: st, w) Q) := cf_wg rfl
theorem r_M_right_4 {l0 : Option cf_AV} {x : Int32} {w : cf_Wd} {P : Int32 → cf_Wd → Prop} : cf_wp T_M_right (4, [l0], [.inl x], w) (cf_qi P) ↔ P x w := Iff.trans (cf_wr (q := (some (.inl x), w)) rfl) Iff.rfl
theorem e_M_right {a0 : Int32} {w : cf_Wd} {P : Int32 → cf_Wd → Prop} (h : cf_wp T_M_right (0, [some (.inl a0)], [], w) (cf_qi P)) : ∃ x w1, F_M_right [.inl a0] w = some (some (.inl x), w1) ∧ P x w1 := cf_ei rfl (Nat.le_of_ble_eq_true rfl) h
noncomputable def T_M_readVariables (pc : Nat) : cf_Rw := bif Nat.ble pc 60 then
 (bif Nat.ble pc 50 then
  (bif Nat.ble pc 4 then
   (bif Nat.ble pc 0 then
    (bif Nat.beq pc 0 then cf_iload 0 1 else cf_stuck)
    else
    (bif Nat.ble pc 1 then
     (bif Nat.beq pc 1 then cf_call 1 F_M_operation 4 else cf_stuck)
     else
     (bif Nat.beq pc 4 then cf_tsw 2 8 76 [48, 62, 62, 62, 76, 62, 69] else cf_stuck)))
   else
   (bif Nat.ble pc 48 then
    (bif Nat.beq pc 48 then cf_const 1 49 else cf_stuck)
    else
    (bif Nat.ble pc 49 then
     (bif Nat.beq pc 49 then cf_iload 0 50 else cf_stuck)
     else
     (bif Nat.beq pc 50 then cf_call 1 F_M_left 53 else cf_stuck))))
  else
  (bif Nat.ble pc 55 then
   (bif Nat.ble pc 53 then
    (bif Nat.beq pc 53 then cf_bin (fun x y => x <<< (y &&& 31)) 54 else cf_stuck)
    else
    (bif Nat.ble pc 54 then
     (bif Nat.beq pc 54 then cf_const 1 55 else cf_stuck)
     else
     (bif Nat.beq pc 55 then cf_iload 0 56 else cf_stuck)))
   else
   (bif Nat.ble pc 56 then
    (bif Nat.beq pc 56 then cf_call 1 F_M_right 59 else cf_stuck)
    else
    (bif Nat.ble pc 59 then
     (bif Nat.beq pc 59 then cf_bin (fun x y => x <<< (y &&& 31)) 60 else cf_stuck)
     else
     (bif Nat.beq pc 60 then cf_bin (fun x y => x ||| y) 61 else cf_stuck)))))
 else
 (bif Nat.ble pc 68 then
  (bif Nat.ble pc 63 then
   (bif Nat.ble pc 61 then
    (bif Nat.beq pc 61 then cf_iret else cf_stuck)
    else
    (bif Nat.ble pc 62 then
     (bif Nat.beq pc 62 then cf_const 1 63 else cf_stuck)
     else
     (bif Nat.beq pc 63 then cf_iload 0 64 else cf_stuck)))
   else
   (bif Nat.ble pc 64 then
    (bif Nat.beq pc 64 then cf_call 1 F_M_left 67 else cf_stuck)
    else
    (bif Nat.ble pc 67 then
     (bif Nat.beq pc 67 then cf_bin (fun x y => x <<< (y &&& 31)) 68 else cf_stuck)
     else
     (bif Nat.beq pc 68 then cf_iret else cf_stuck))))
  else
  (bif Nat.ble pc 71 then
   (bif Nat.ble pc 69 then
    (bif Nat.beq pc 69 then cf_const 1 70 else cf_stuck)
    else
    (bif Nat.ble pc 70 then
     (bif Nat.beq pc 70 then cf_iload 0 71 else cf_stuck)
     else
     (bif Nat.beq pc 71 then cf_call 1 F_M_right 74 else cf_stuck)))
   else
   (bif Nat.ble pc 75 then
    (bif Nat.ble pc 74 then
     (bif Nat.beq pc 74 then cf_bin (fun x y => x <<< (y &&& 31)) 75 else cf_stuck)
     else
     (bif Nat.beq pc 75 then cf_iret else cf_stuck))
    else
    (bif Nat.ble pc 76 then
     (bif Nat.beq pc 76 then cf_const 0 77 else cf_stuck)
     else
     (bif Nat.beq pc 77 then cf_iret else cf_stuck)))))
noncomputable def F_M_readVariables : List cf_AV → cf_Wd → Option cf_Rs := cf_F T_M_readVariables 1 (some .int) (cf_shS 1)
theorem r_M_readVariables_0 {x : Int32} {st : List cf_AV} {w : cf_Wd} {Q : cf_Rs → Prop} : cf_wp T_M_readVariables (0, [some (.inl x)], st, w) Q ↔ cf_wp T_M_readVariables (1, [some (.inl x)], .inl x :: st, w) Q := cf_w1 rfl
theorem r_M_readVariables_1 {l0 : Option cf_AV} {a0 : Int32} {w : cf_Wd} {Q : cf_Rs → Prop} : cf_wp T_M_readVariables (1, [l0], [.inl a0], w) Q ↔ ∃ x w1, F_M_operation [.inl a0] w = some (some (.inl x), w1) ∧ cf_wp T_M_readVariables (4, [l0], [.inl x], w1) Q := cf_wci (n := 1) (F := F_M_operation) (nx := 4) rfl rfl cf_F_i
theorem c_M_readVariables_1 {l0 : Option cf_AV} {a0 : Int32} {x1 : Int32} {w1 : cf_Wd} {w : cf_Wd} {Q : cf_Rs → Prop} (hs : F_M_operation [.inl a0] w = some (some (.inl x1), w1)) : cf_wp T_M_readVariables (1, [l0], [.inl a0], w) Q ↔ cf_wp T_M_readVariables (4, [l0], [.inl x1], w1) Q := r_M_readVariables_1.trans (cf_xi hs)
theorem r_M_readVariables_4_0 {l0 : Option cf_AV} {st : List cf_AV} {w : cf_Wd} {Q : cf_Rs → Prop} : cf_wp T_M_readVariables (4, [l0], .inl 0 :: st, w) Q ↔ cf_wp T_M_readVariables (76, [l0], st, w) Q := cf_w1 (cf_tsw_e rfl (by decide +kernel))
theorem r_M_readVariables_4_1 {l0 : Option cf_AV} {st : List cf_AV} {w : cf_Wd} {Q : cf_Rs → Prop} : cf_wp T_M_readVariables (4, [l0], .inl 1 :: st, w) Q ↔ cf_wp T_M_readVariables (76, [l0], st, w) Q := cf_w1 (cf_tsw_e rfl (by decide +kernel))
theorem r_M_readVariables_4_2 {l0 : Option cf_AV} {st : List cf_AV} {w : cf_Wd} {Q : cf_Rs → Prop} : cf_wp T_M_readVariables (4, [l0], .inl 2 :: st, w) Q ↔ cf_wp T_M_readVariables (48, [l0], st, w) Q := cf_w1 (cf_tsw_e rfl (by decide +kernel))
theorem r_M_readVariables_4_3 {l0 : Option cf_AV} {st : List cf_AV} {w : cf_Wd} {Q : cf_Rs → Prop} : cf_wp T_M_readVariables (4, [l0], .inl 3 :: st, w) Q ↔ cf_wp T_M_readVariables (62, [l0], st, w) Q := cf_w1 (cf_tsw_e rfl (by decide +kernel))
theorem r_M_readVariables_4_4 {l0 : Option cf_AV} {st : List cf_AV} {w : cf_Wd} {Q : cf_Rs → Prop} : cf_wp T_M_readVariables (4, [l0], .inl 4 :: st, w) Q ↔ cf_wp T_M_readVariables (62, [l0], st, w) Q := cf_w1 (cf_tsw_e rfl (by decide +kernel))
theorem r_M_readVariables_4_5 {l0 : Option cf_AV} {st : List cf_AV} {w : cf_Wd} {Q : cf_Rs → Prop} : cf_wp T_M_readVariables (4, [l0], .inl 5 :: st, w) Q ↔ cf_wp T_M_readVariables (62, [l0], st, w) Q := cf_w1 (cf_tsw_e rfl (by decide +kernel))
theorem r_M_readVariables_4_6 {l0 : Option cf_AV} {st : List cf_AV} {w : cf_Wd} {Q : cf_Rs → Prop} : cf_wp T_M_readVariables (4, [l0], .inl 6 :: st, w) Q ↔ cf_wp T_M_readVariables (76, [l0], st, w) Q := cf_w1 (cf_tsw_e rfl (by decide +kernel))
theorem r_M_readVariables_4_7 {l0 : Option cf_AV} {st : List cf_AV} {w : cf_Wd} {Q : cf_Rs → Prop} : cf_wp T_M_readVariables (4, [l0], .inl 7 :: st, w) Q ↔ cf_wp T_M_readVariables (62, [l0], st, w) Q := cf_w1 (cf_tsw_e rfl (by decide +kernel))
theorem r_M_readVariables_4_8 {l0 : Option cf_AV} {st : List cf_AV} {w : cf_Wd} {Q : cf_Rs → Prop} : cf_wp T_M_readVariables (4, [l0], .inl 8 :: st, w) Q ↔ cf_wp T_M_readVariables (69, [l0], st, w) Q := cf_w1 (cf_tsw_e rfl (by decide +kernel))
theorem r_M_readVariables_4_9 {l0 : Option cf_AV} {st : List cf_AV} {w : cf_Wd} {Q : cf_Rs → Prop} : cf_wp T_M_readVariables (4, [l0], .inl 9 :: st, w) Q ↔ cf_wp T_M_readVariables (76, [l0], st, w) Q := cf_w1 (cf_tsw_e rfl (by decide +kernel))
theorem r_M_readVariables_48 {l0 : Option cf_AV} {st : List cf_AV} {w : cf_Wd} {Q : cf_Rs → Prop} : cf_wp T_M_readVariables (48, [l0], st, w) Q ↔ cf_wp T_M_readVariables (49, [l0], .inl 1 :: st, w) Q := cf_w1 rfl
theorem r_M_readVariables_49 {x : Int32} {st : List cf_AV} {w : cf_Wd} {Q : cf_Rs → Prop} : cf_wp T_M_readVariables (49, [some (.inl x)], st, w) Q ↔ cf_wp T_M_readVariables (50, [some (.inl x)], .inl x :: st, w) Q := cf_w1 rfl
theorem r_M_readVariables_50 {l0 : Option cf_AV} {a0 : Int32} {t0 : cf_AV} {w : cf_Wd} {Q : cf_Rs → Prop} : cf_wp T_M_readVariables (50, [l0], [.inl a0, t0], w) Q ↔ ∃ x w1, F_M_left [.inl a0] w = some (some (.inl x), w1) ∧ cf_wp T_M_readVariables (53, [l0], [.inl x, t0], w1) Q := cf_wci (n := 1) (F := F_M_left) (nx := 53) rfl rfl cf_F_i
theorem c_M_readVariables_50 {l0 : Option cf_AV} {a0 : Int32} {t0 : cf_AV} {x1 : Int32} {w1 : cf_Wd} {w : cf_Wd} {Q : cf_Rs → Prop} (hs : F_M_left [.inl a0] w = some (some (.inl x1), w1)) : cf_wp T_M_readVariables (50, [l0], [.inl a0, t0], w) Q ↔ cf_wp T_M_readVariables (53, [l0], [.inl x1, t0], w1) Q := r_M_readVariables_50.trans (cf_xi hs)
theorem r_M_readVariables_53 {l0 : Option cf_AV} {x y : Int32} {st : List cf_AV} {w : cf_Wd} {Q : cf_Rs → Prop} : cf_wp T_M_readVariables (53, [l0], .inl y :: .inl x :: st, w) Q ↔ cf_wp T_M_readVariables (54, [l0], .inl (x <<< (y &&& 31)) :: st, w) Q := cf_w1 rfl
theorem r_M_readVariables_54 {l0 : Option cf_AV} {st : List cf_AV} {w : cf_Wd} {Q : cf_Rs → Prop} : cf_wp T_M_readVariables (54, [l0], st, w) Q ↔ cf_wp T_M_readVariables (55, [l0], .inl 1 :: st, w) Q := cf_w1 rfl
theorem r_M_readVariables_55 {x : Int32} {st : List cf_AV} {w : cf_Wd} {Q : cf_Rs → Prop} : cf_wp T_M_readVariables (55, [some (.inl x)], st, w) Q ↔ cf_wp T_M_readVariables (56, [some (.inl x)], .inl x :: st, w) Q := cf_w1 rfl
theorem r_M_readVariables_56 {l0 : Option cf_AV} {a0 : Int32} {t0 t1 : cf_AV} {w : cf_Wd} {Q : cf_Rs → Prop} : cf_wp T_M_readVariables (56, [l0], [.inl a0, t0, t1], w) Q ↔ ∃ x w1, F_M_right [.inl a0] w = some (some (.inl x), w1) ∧ cf_wp T_M_readVariables (59, [l0], [.inl x, t0, t1], w1) Q := cf_wci (n := 1) (F := F_M_right) (nx := 59) rfl rfl cf_F_i
theorem c_M_readVariables_56 {l0 : Option cf_AV} {a0 : Int32} {t0 t1 : cf_AV} {x1 : Int32} {w1 : cf_Wd} {w : cf_Wd} {Q : cf_Rs → Prop} (hs : F_M_right [.inl a0] w = some (some (.inl x1), w1)) : cf_wp T_M_readVariables (56, [l0], [.inl a0, t0, t1], w) Q ↔ cf_wp T_M_readVariables (59, [l0], [.inl x1, t0, t1], w1) Q := r_M_readVariables_56.trans (cf_xi hs)
theorem r_M_readVariables_59 {l0 : Option cf_AV} {x y : Int32} {st : List cf_AV} {w : cf_Wd} {Q : cf_Rs → Prop} : cf_wp T_M_readVariables (59, [l0], .inl y :: .inl x :: st, w) Q ↔ cf_wp T_M_readVariables (60, [l0], .inl (x <<< (y &&& 31)) :: st, w) Q := cf_w1 rfl
theorem r_M_readVariables_60 {l0 : Option cf_AV} {x y : Int32} {st : List cf_AV} {w : cf_Wd} {Q : cf_Rs → Prop} : cf_wp T_M_readVariables (60, [l0], .inl y :: .inl x :: st, w) Q ↔ cf_wp T_M_readVariables (61, [l0], .inl (x ||| y) :: st, w) Q := cf_w1 rfl
theorem r_M_readVariables_61 {l0 : Option cf_AV} {x : Int32} {w : cf_Wd} {P : Int32 → cf_Wd → Prop} : cf_wp T_M_readVariables (61, [l0], [.inl x], w) (cf_qi P) ↔ P x w := Iff.trans (cf_wr (q := (some (.inl x), w)) rfl) Iff.rfl
theorem r_M_readVariables_62 {l0 : Option cf_AV} {st : List cf_AV} {w : cf_Wd} {Q : cf_Rs → Prop} : cf_wp T_M_readVariables (62, [l0], st, w) Q ↔ cf_wp T_M_readVariables (63, [l0], .inl 1 :: st, w) Q := cf_w1 rfl
theorem r_M_readVariables_63 {x : Int32} {st : List cf_AV} {w : cf_Wd} {Q : cf_Rs → Prop} : cf_wp T_M_readVariables (63, [some (.inl x)], st, w) Q ↔ cf_wp T_M_readVariables (64, [some (.inl x)], .inl x :: st, w) Q := cf_w1 rfl
theorem r_M_readVariables_64 {l0 : Option cf_AV} {a0 : Int32} {t0 : cf_AV} {w : cf_Wd} {Q : cf_Rs → Prop} : cf_wp T_M_readVariables (64, [l0], [.inl a0, t0], w) Q ↔ ∃ x w1, F_M_left [.inl a0] w = some (some (.inl x), w1) ∧ cf_wp T_M_readVariables (67, [l0], [.inl x, t0], w1) Q := cf_wci (n := 1) (F := F_M_left) (nx := 67) rfl rfl cf_F_i
theorem c_M_readVariables_64 {l0 : Option cf_AV} {a0 : Int32} {t0 : cf_AV} {x1 : Int32} {w1 : cf_Wd} {w : cf_Wd} {Q : cf_Rs → Prop} (hs : F_M_left [.inl a0] w = some (some (.inl x1), w1)) : cf_wp T_M_readVariables (64, [l0], [.inl a0, t0], w) Q ↔ cf_wp T_M_readVariables (67, [l0], [.inl x1, t0], w1) Q := r_M_readVariables_64.trans (cf_xi hs)
theorem r_M_readVariables_67 {l0 : Option cf_AV} {x y : Int32} {st : List cf_AV} {w : cf_Wd} {Q : cf_Rs → Prop} : cf_wp T_M_readVariables (67, [l0], .inl y :: .inl x :: st, w) Q ↔ cf_wp T_M_readVariables (68, [l0], .inl (x <<< (y &&& 31)) :: st, w) Q := cf_w1 rfl
theorem r_M_readVariables_68 {l0 : Option cf_AV} {x : Int32} {w : cf_Wd} {P : Int32 → cf_Wd → Prop} : cf_wp T_M_readVariables (68, [l0], [.inl x], w) (cf_qi P) ↔ P x w := Iff.trans (cf_wr (q := (some (.inl x), w)) rfl) Iff.rfl
theorem r_M_readVariables_69 {l0 : Option cf_AV} {st : List cf_AV} {w : cf_Wd} {Q : cf_Rs → Prop} : cf_wp T_M_readVariables (69, [l0], st, w) Q ↔ cf_wp T_M_readVariables (70, [l0], .inl 1 :: st, w) Q := cf_w1 rfl
theorem r_M_readVariables_70 {x : Int32} {st : List cf_AV} {w : cf_Wd} {Q : cf_Rs → Prop} : cf_wp T_M_readVariables (70, [some (.inl x)], st, w) Q ↔ cf_wp T_M_readVariables (71, [some (.inl x)], .inl x :: st, w) Q := cf_w1 rfl
theorem r_M_readVariables_71 {l0 : Option cf_AV} {a0 : Int32} {t0 : cf_AV} {w : cf_Wd} {Q : cf_Rs → Prop} : cf_wp T_M_readVariables (71, [l0], [.inl a0, t0], w) Q ↔ ∃ x w1, F_M_right [.inl a0] w = some (some (.inl x), w1) ∧ cf_wp T_M_readVariables (74, [l0], [.inl x, t0], w1) Q := cf_wci (n := 1) (F := F_M_right) (nx := 74) rfl rfl cf_F_i
theorem c_M_readVariables_71 {l0 : Option cf_AV} {a0 : Int32} {t0 : cf_AV} {x1 : Int32} {w1 : cf_Wd} {w : cf_Wd} {Q : cf_Rs → Prop} (hs : F_M_right [.inl a0] w = some (some (.inl x1), w1)) : cf_wp T_M_readVariables (71, [l0], [.inl a0, t0], w) Q ↔ cf_wp T_M_readVariables (74, [l0], [.inl x1, t0], w1) Q := r_M_readVariables_71.trans (cf_xi hs)
theorem r_M_readVariables_74 {l0 : Option cf_AV} {x y : Int32} {st : List cf_AV} {w : cf_Wd} {Q : cf_Rs → Prop} : cf_wp T_M_readVariables (74, [l0], .inl y :: .inl x :: st, w) Q ↔ cf_wp T_M_readVariables (75, [l0], .inl (x <<< (y &&& 31)) :: st, w) Q := cf_w1 rfl
theorem r_M_readVariables_75 {l0 : Option cf_AV} {x : Int32} {w : cf_Wd} {P : Int32 → cf_Wd → Prop} : cf_wp T_M_readVariables (75, [l0], [.inl x], w) (cf_qi P) ↔ P x w := Iff.trans (cf_wr (q := (some (.inl x), w)) rfl) Iff.rfl
theorem r_M_readVariables_76 {l0 : Option cf_AV} {st : List cf_AV} {w : cf_Wd} {Q : cf_Rs → Prop} : cf_wp T_M_readVariables (76, [l0], st, w) Q ↔ cf_wp T_M_readVariables (77, [l0], .inl 0 :: st, w) Q := cf_w1 rfl
theorem r_M_readVariables_77 {l0 : Option cf_AV} {x : Int32} {w : cf_Wd} {P : Int32 → cf_Wd → Prop} : cf_wp T_M_readVariables (77, [l0], [.inl x], w) (cf_qi P) ↔ P x w := Iff.trans (cf_wr (q := (some (.inl x), w)) rfl) Iff.rfl
theorem e_M_readVariables {a0 : Int32} {w : cf_Wd} {P : Int32 → cf_Wd → Prop} (h : cf_wp T_M_readVariables (0, [some (.inl a0)], [], w) (cf_qi P)) : ∃ x w1, F_M_readVariables [.inl a0] w = some (some (.inl x), w1) ∧ P x w1 := cf_ei rfl (Nat.le_of_ble_eq_true rfl) h
noncomputable def T_M_setsBeforeReading (pc : Nat) : cf_Rw := bif Nat.ble pc 28 then
 (bif Nat.ble pc 14 then
  (bif Nat.ble pc 4 then
   (bif Nat.ble pc 1 then
    (bif Nat.ble pc 0 then
     (bif Nat.beq pc 0 then cf_const 1 1 else cf_stuck)
     else
     (bif Nat.beq pc 1 then cf_istore 1 2 else cf_stuck))
    else
    (bif Nat.ble pc 2 then
     (bif Nat.beq pc 2 then cf_const 0 3 else cf_stuck)
     else
     (bif Nat.ble pc 3 then
      (bif Nat.beq pc 3 then cf_istore 2 4 else cf_stuck)
      else
      (bif Nat.beq pc 4 then cf_iload 2 5 else cf_stuck))))
   else
   (bif Nat.ble pc 7 then
    (bif Nat.ble pc 5 then
     (bif Nat.beq pc 5 then cf_const 8 7 else cf_stuck)
     else
     (bif Nat.beq pc 7 then cf_icge 62 10 else cf_stuck))
    else
    (bif Nat.ble pc 10 then
     (bif Nat.beq pc 10 then cf_aload 0 11 else cf_stuck)
     else
     (bif Nat.ble pc 11 then
      (bif Nat.beq pc 11 then cf_get 1 0 14 else cf_stuck)
      else
      (bif Nat.beq pc 14 then cf_iload 2 15 else cf_stuck)))))
  else
  (bif Nat.ble pc 21 then
   (bif Nat.ble pc 16 then
    (bif Nat.ble pc 15 then
     (bif Nat.beq pc 15 then cf_iald 16 else cf_stuck)
     else
     (bif Nat.beq pc 16 then cf_istore 3 17 else cf_stuck))
    else
    (bif Nat.ble pc 17 then
     (bif Nat.beq pc 17 then cf_iload 3 18 else cf_stuck)
     else
     (bif Nat.ble pc 18 then
      (bif Nat.beq pc 18 then cf_call 1 F_M_readVariables 21 else cf_stuck)
      else
      (bif Nat.beq pc 21 then cf_iload 1 22 else cf_stuck))))
   else
   (bif Nat.ble pc 23 then
    (bif Nat.ble pc 22 then
     (bif Nat.beq pc 22 then cf_const (-1) 23 else cf_stuck)
     else
     (bif Nat.beq pc 23 then cf_bin (fun x y => x ^^^ y) 24 else cf_stuck))
    else
    (bif Nat.ble pc 24 then
     (bif Nat.beq pc 24 then cf_bin (fun x y => x &&& y) 25 else cf_stuck)
     else
     (bif Nat.ble pc 25 then
      (bif Nat.beq pc 25 then cf_ifeq 30 28 else cf_stuck)
      else
      (bif Nat.beq pc 28 then cf_const 0 29 else cf_stuck))))))
 else
 (bif Nat.ble pc 47 then
  (bif Nat.ble pc 35 then
   (bif Nat.ble pc 30 then
    (bif Nat.ble pc 29 then
     (bif Nat.beq pc 29 then cf_iret else cf_stuck)
     else
     (bif Nat.beq pc 30 then cf_iload 3 31 else cf_stuck))
    else
    (bif Nat.ble pc 31 then
     (bif Nat.beq pc 31 then cf_call 1 F_M_operation 34 else cf_stuck)
     else
     (bif Nat.ble pc 34 then
      (bif Nat.beq pc 34 then cf_const 1 35 else cf_stuck)
      else
      (bif Nat.beq pc 35 then cf_iceq 47 38 else cf_stuck))))
   else
   (bif Nat.ble pc 39 then
    (bif Nat.ble pc 38 then
     (bif Nat.beq pc 38 then cf_iload 3 39 else cf_stuck)
     else
     (bif Nat.beq pc 39 then cf_call 1 F_M_operation 42 else cf_stuck))
    else
    (bif Nat.ble pc 42 then
     (bif Nat.beq pc 42 then cf_const 8 44 else cf_stuck)
     else
     (bif Nat.ble pc 44 then
      (bif Nat.beq pc 44 then cf_icne 56 47 else cf_stuck)
      else
      (bif Nat.beq pc 47 then cf_iload 1 48 else cf_stuck)))))
  else
  (bif Nat.ble pc 54 then
   (bif Nat.ble pc 49 then
    (bif Nat.ble pc 48 then
     (bif Nat.beq pc 48 then cf_const 1 49 else cf_stuck)
     else
     (bif Nat.beq pc 49 then cf_iload 3 50 else cf_stuck))
    else
    (bif Nat.ble pc 50 then
     (bif Nat.beq pc 50 then cf_call 1 F_M_left 53 else cf_stuck)
     else
     (bif Nat.ble pc 53 then
      (bif Nat.beq pc 53 then cf_bin (fun x y => x <<< (y &&& 31)) 54 else cf_stuck)
      else
      (bif Nat.beq pc 54 then cf_bin (fun x y => x ||| y) 55 else cf_stuck))))
   else
   (bif Nat.ble pc 56 then
    (bif Nat.ble pc 55 then
     (bif Nat.beq pc 55 then cf_istore 1 56 else cf_stuck)
     else
     (bif Nat.beq pc 56 then cf_iinc 2 1 59 else cf_stuck))
    else
    (bif Nat.ble pc 59 then
     (bif Nat.beq pc 59 then cf_goto 4 else cf_stuck)
     else
     (bif Nat.ble pc 62 then
      (bif Nat.beq pc 62 then cf_const 1 63 else cf_stuck)
      else
      (bif Nat.beq pc 63 then cf_iret else cf_stuck))))))
noncomputable def F_M_setsBeforeReading : List cf_AV → cf_Wd → Option cf_Rs := cf_F T_M_setsBeforeReading 4 (some .boolean) (cf_shV 5 0)
theorem r_M_setsBeforeReading_0 {l0 l1 l2 l3 : Option cf_AV} {st : List cf_AV} {w : cf_Wd} {Q : cf_Rs → Prop} : cf_wp T_M_setsBeforeReading (0, [l0, l1, l2, l3], st, w) Q ↔ cf_wp T_M_setsBeforeReading (1, [l0, l1, l2, l3], .inl 1 :: st, w) Q := cf_w1 rfl
theorem r_M_setsBeforeReading_1 {l0 l1 l2 l3 : Option cf_AV} {x : Int32} {st : List cf_AV} {w : cf_Wd} {Q : cf_Rs → Prop} : cf_wp T_M_setsBeforeReading (1, [l0, l1, l2, l3], .inl x :: st, w) Q ↔ cf_wp T_M_setsBeforeReading (2, [l0, some (.inl x), l2, l3], st, w) Q := cf_w1 rfl
theorem r_M_setsBeforeReading_2 {l0 l1 l2 l3 : Option cf_AV} {st : List cf_AV} {w : cf_Wd} {Q : cf_Rs → Prop} : cf_wp T_M_setsBeforeReading (2, [l0, l1, l2, l3], st, w) Q ↔ cf_wp T_M_setsBeforeReading (3, [l0, l1, l2, l3], .inl 0 :: st, w) Q := cf_w1 rfl
theorem r_M_setsBeforeReading_3 {l0 l1 l2 l3 : Option cf_AV} {x : Int32} {st : List cf_AV} {w : cf_Wd} {Q : cf_Rs → Prop} : cf_wp T_M_setsBeforeReading (3, [l0, l1, l2, l3], .inl x :: st, w) Q ↔ cf_wp T_M_setsBeforeReading (4, [l0, l1, some (.inl x), l3], st, w) Q := cf_w1 rfl
theorem r_M_setsBeforeReading_4 {l0 l1 l3 : Option cf_AV} {x : Int32} {st : List cf_AV} {w : cf_Wd} {Q : cf_Rs → Prop} : cf_wp T_M_setsBeforeReading (4, [l0, l1, some (.inl x), l3], st, w) Q ↔ cf_wp T_M_setsBeforeReading (5, [l0, l1, some (.inl x), l3], .inl x :: st, w) Q := cf_w1 rfl
theorem r_M_setsBeforeReading_5 {l0 l1 l2 l3 : Option cf_AV} {st : List cf_AV} {w : cf_Wd} {Q : cf_Rs → Prop} : cf_wp T_M_setsBeforeReading (5, [l0, l1, l2, l3], st, w) Q ↔ cf_wp T_M_setsBeforeReading (7, [l0, l1, l2, l3], .inl 8 :: st, w) Q := cf_w1 rfl
theorem r_M_setsBeforeReading_7 {l0 l1 l2 l3 : Option cf_AV} {x y : Int32} {st : List cf_AV} {w : cf_Wd} {Q : cf_Rs → Prop} : cf_wp T_M_setsBeforeReading (7, [l0, l1, l2, l3], .inl y :: .inl x :: st, w) Q ↔ (if y ≤ x then cf_wp T_M_setsBeforeReading (62, [l0, l1, l2, l3], st, w) Q else cf_wp T_M_setsBeforeReading (10, [l0, l1, l2, l3], st, w) Q) := cf_wi rfl
theorem r_M_setsBeforeReading_10 {l1 l2 l3 : Option cf_AV} {k : Nat} {st : List cf_AV} {w : cf_Wd} {Q : cf_Rs → Prop} : cf_wp T_M_setsBeforeReading (10, [some (.inr k), l1, l2, l3], st, w) Q ↔ cf_wp T_M_setsBeforeReading (11, [some (.inr k), l1, l2, l3], .inr k :: st, w) Q := cf_w1 rfl
theorem r_M_setsBeforeReading_11 {l0 l1 l2 l3 : Option cf_AV} {st : List cf_AV} {w : cf_Wd} {Q : cf_Rs → Prop} : cf_wp T_M_setsBeforeReading (11, [l0, l1, l2, l3], .inr 5 :: st, w) Q ↔ cf_wp T_M_setsBeforeReading (14, [l0, l1, l2, l3], .inr 6 :: st, w) Q := cf_w1 rfl
theorem r_M_setsBeforeReading_14 {l0 l1 l3 : Option cf_AV} {x : Int32} {st : List cf_AV} {w : cf_Wd} {Q : cf_Rs → Prop} : cf_wp T_M_setsBeforeReading (14, [l0, l1, some (.inl x), l3], st, w) Q ↔ cf_wp T_M_setsBeforeReading (15, [l0, l1, some (.inl x), l3], .inl x :: st, w) Q := cf_w1 rfl
theorem r_M_setsBeforeReading_15 {l0 l1 l2 l3 : Option cf_AV} {i : Int32} {st : List cf_AV} {w : cf_Wd} {Q : cf_Rs → Prop} : cf_wp T_M_setsBeforeReading (15, [l0, l1, l2, l3], .inl i :: .inr 6 :: st, w) Q ↔ (cf_in i 8 = true ∧ cf_wp T_M_setsBeforeReading (16, [l0, l1, l2, l3], .inl (w 6 i.toNatClampNeg) :: st, w) Q) := cf_wg rfl
theorem r_M_setsBeforeReading_16 {l0 l1 l2 l3 : Option cf_AV} {x : Int32} {st : List cf_AV} {w : cf_Wd} {Q : cf_Rs → Prop} : cf_wp T_M_setsBeforeReading (16, [l0, l1, l2, l3], .inl x :: st, w) Q ↔ cf_wp T_M_setsBeforeReading (17, [l0, l1, l2, some (.inl x)], st, w) Q := cf_w1 rfl
theorem r_M_setsBeforeReading_17 {l0 l1 l2 : Option cf_AV} {x : Int32} {st : List cf_AV} {w : cf_Wd} {Q : cf_Rs → Prop} : cf_wp T_M_setsBeforeReading (17, [l0, l1, l2, some (.inl x)], st, w) Q ↔ cf_wp T_M_setsBeforeReading (18, [l0, l1, l2, some (.inl x)], .inl x :: st, w) Q := cf_w1 rfl
theorem r_M_setsBeforeReading_18 {l0 l1 l2 l3 : Option cf_AV} {a0 : Int32} {w : cf_Wd} {Q : cf_Rs → Prop} : cf_wp T_M_setsBeforeReading (18, [l0, l1, l2, l3], [.inl a0], w) Q ↔ ∃ x w1, F_M_readVariables [.inl a0] w = some (some (.inl x), w1) ∧ cf_wp T_M_setsBeforeReading (21, [l0, l1, l2, l3], [.inl x], w1) Q := cf_wci (n := 1) (F := F_M_readVariables) (nx := 21) rfl rfl cf_F_i
theorem c_M_setsBeforeReading_18 {l0 l1 l2 l3 : Option cf_AV} {a0 : Int32} {x1 : Int32} {w1 : cf_Wd} {w : cf_Wd} {Q : cf_Rs → Prop} (hs : F_M_readVariables [.inl a0] w = some (some (.inl x1), w1)) : cf_wp T_M_setsBeforeReading (18, [l0, l1, l2, l3], [.inl a0], w) Q ↔ cf_wp T_M_setsBeforeReading (21, [l0, l1, l2, l3], [.inl x1], w1) Q := r_M_setsBeforeReading_18.trans (cf_xi hs)
theorem r_M_setsBeforeReading_21 {l0 l2 l3 : Option cf_AV} {x : Int32} {st : List cf_AV} {w : cf_Wd} {Q : cf_Rs → Prop} : cf_wp T_M_setsBeforeReading (21, [l0, some (.inl x), l2, l3], st, w) Q ↔ cf_wp T_M_setsBeforeReading (22, [l0, some (.inl x), l2, l3], .inl x :: st, w) Q := cf_w1 rfl
theorem r_M_setsBeforeReading_22 {l0 l1 l2 l3 : Option cf_AV} {st : List cf_AV} {w : cf_Wd} {Q : cf_Rs → Prop} : cf_wp T_M_setsBeforeReading (22, [l0, l1, l2, l3], st, w) Q ↔ cf_wp T_M_setsBeforeReading (23, [l0, l1, l2, l3], .inl (-1) :: st, w) Q := cf_w1 rfl
theorem r_M_setsBeforeReading_23 {l0 l1 l2 l3 : Option cf_AV} {x y : Int32} {st : List cf_AV} {w : cf_Wd} {Q : cf_Rs → Prop} : cf_wp T_M_setsBeforeReading (23, [l0, l1, l2, l3], .inl y :: .inl x :: st, w) Q ↔ cf_wp T_M_setsBeforeReading (24, [l0, l1, l2, l3], .inl (x ^^^ y) :: st, w) Q := cf_w1 rfl
theorem r_M_setsBeforeReading_24 {l0 l1 l2 l3 : Option cf_AV} {x y : Int32} {st : List cf_AV} {w : cf_Wd} {Q : cf_Rs → Prop} : cf_wp T_M_setsBeforeReading (24, [l0, l1, l2, l3], .inl y :: .inl x :: st, w) Q ↔ cf_wp T_M_setsBeforeReading (25, [l0, l1, l2, l3], .inl (x &&& y) :: st, w) Q := cf_w1 rfl
theorem r_M_setsBeforeReading_25 {l0 l1 l2 l3 : Option cf_AV} {x : Int32} {st : List cf_AV} {w : cf_Wd} {Q : cf_Rs → Prop} : cf_wp T_M_setsBeforeReading (25, [l0, l1, l2, l3], .inl x :: st, w) Q ↔ (if x = 0 then cf_wp T_M_setsBeforeReading (30, [l0, l1, l2, l3], st, w) Q else cf_wp T_M_setsBeforeReading (28, [l0, l1, l2, l3], st, w) Q) := cf_wi rfl
theorem r_M_setsBeforeReading_28 {l0 l1 l2 l3 : Option cf_AV} {st : List cf_AV} {w : cf_Wd} {Q : cf_Rs → Prop} : cf_wp T_M_setsBeforeReading (28, [l0, l1, l2, l3], st, w) Q ↔ cf_wp T_M_setsBeforeReading (29, [l0, l1, l2, l3], .inl 0 :: st, w) Q := cf_w1 rfl
theorem r_M_setsBeforeReading_29 {l0 l1 l2 l3 : Option cf_AV} {x : Int32} {w : cf_Wd} {P : Int32 → cf_Wd → Prop} : cf_wp T_M_setsBeforeReading (29, [l0, l1, l2, l3], [.inl x], w) (cf_qb P) ↔ ((x = 0 ∨ x = 1) ∧ P x w) := Iff.trans (cf_wr (q := (some (.inl x), w)) rfl) Iff.rfl
theorem r_M_setsBeforeReading_30 {l0 l1 l2 : Option cf_AV} {x : Int32} {st : List cf_AV} {w : cf_Wd} {Q : cf_Rs → Prop} : cf_wp T_M_setsBeforeReading (30, [l0, l1, l2, some (.inl x)], st, w) Q ↔ cf_wp T_M_setsBeforeReading (31, [l0, l1, l2, some (.inl x)], .inl x :: st, w) Q := cf_w1 rfl
theorem r_M_setsBeforeReading_31 {l0 l1 l2 l3 : Option cf_AV} {a0 : Int32} {w : cf_Wd} {Q : cf_Rs → Prop} : cf_wp T_M_setsBeforeReading (31, [l0, l1, l2, l3], [.inl a0], w) Q ↔ ∃ x w1, F_M_operation [.inl a0] w = some (some (.inl x), w1) ∧ cf_wp T_M_setsBeforeReading (34, [l0, l1, l2, l3], [.inl x], w1) Q := cf_wci (n := 1) (F := F_M_operation) (nx := 34) rfl rfl cf_F_i
theorem c_M_setsBeforeReading_31 {l0 l1 l2 l3 : Option cf_AV} {a0 : Int32} {x1 : Int32} {w1 : cf_Wd} {w : cf_Wd} {Q : cf_Rs → Prop} (hs : F_M_operation [.inl a0] w = some (some (.inl x1), w1)) : cf_wp T_M_setsBeforeReading (31, [l0, l1, l2, l3], [.inl a0], w) Q ↔ cf_wp T_M_setsBeforeReading (34, [l0, l1, l2, l3], [.inl x1], w1) Q := r_M_setsBeforeReading_31.trans (cf_xi hs)
theorem r_M_setsBeforeReading_34 {l0 l1 l2 l3 : Option cf_AV} {st : List cf_AV} {w : cf_Wd} {Q : cf_Rs → Prop} : cf_wp T_M_setsBeforeReading (34, [l0, l1, l2, l3], st, w) Q ↔ cf_wp T_M_setsBeforeReading (35, [l0, l1, l2, l3], .inl 1 :: st, w) Q := cf_w1 rfl
theorem r_M_setsBeforeReading_35 {l0 l1 l2 l3 : Option cf_AV} {x y : Int32} {st : List cf_AV} {w : cf_Wd} {Q : cf_Rs → Prop} : cf_wp T_M_setsBeforeReading (35, [l0, l1, l2, l3], .inl y :: .inl x :: st, w) Q ↔ (if x = y then cf_wp T_M_setsBeforeReading (47, [l0, l1, l2, l3], st, w) Q else cf_wp T_M_setsBeforeReading (38, [l0, l1, l2, l3], st, w) Q) := cf_wi rfl
theorem r_M_setsBeforeReading_38 {l0 l1 l2 : Option cf_AV} {x : Int32} {st : List cf_AV} {w : cf_Wd} {Q : cf_Rs → Prop} : cf_wp T_M_setsBeforeReading (38, [l0, l1, l2, some (.inl x)], st, w) Q ↔ cf_wp T_M_setsBeforeReading (39, [l0, l1, l2, some (.inl x)], .inl x :: st, w) Q := cf_w1 rfl
theorem r_M_setsBeforeReading_39 {l0 l1 l2 l3 : Option cf_AV} {a0 : Int32} {w : cf_Wd} {Q : cf_Rs → Prop} : cf_wp T_M_setsBeforeReading (39, [l0, l1, l2, l3], [.inl a0], w) Q ↔ ∃ x w1, F_M_operation [.inl a0] w = some (some (.inl x), w1) ∧ cf_wp T_M_setsBeforeReading (42, [l0, l1, l2, l3], [.inl x], w1) Q := cf_wci (n := 1) (F := F_M_operation) (nx := 42) rfl rfl cf_F_i
theorem c_M_setsBeforeReading_39 {l0 l1 l2 l3 : Option cf_AV} {a0 : Int32} {x1 : Int32} {w1 : cf_Wd} {w : cf_Wd} {Q : cf_Rs → Prop} (hs : F_M_operation [.inl a0] w = some (some (.inl x1), w1)) : cf_wp T_M_setsBeforeReading (39, [l0, l1, l2, l3], [.inl a0], w) Q ↔ cf_wp T_M_setsBeforeReading (42, [l0, l1, l2, l3], [.inl x1], w1) Q := r_M_setsBeforeReading_39.trans (cf_xi hs)
theorem r_M_setsBeforeReading_42 {l0 l1 l2 l3 : Option cf_AV} {st : List cf_AV} {w : cf_Wd} {Q : cf_Rs → Prop} : cf_wp T_M_setsBeforeReading (42, [l0, l1, l2, l3], st, w) Q ↔ cf_wp T_M_setsBeforeReading (44, [l0, l1, l2, l3], .inl 8 :: st, w) Q := cf_w1 rfl
theorem r_M_setsBeforeReading_44 {l0 l1 l2 l3 : Option cf_AV} {x y : Int32} {st : List cf_AV} {w : cf_Wd} {Q : cf_Rs → Prop} : cf_wp T_M_setsBeforeReading (44, [l0, l1, l2, l3], .inl y :: .inl x :: st, w) Q ↔ (if ¬ x = y then cf_wp T_M_setsBeforeReading (56, [l0, l1, l2, l3], st, w) Q else cf_wp T_M_setsBeforeReading (47, [l0, l1, l2, l3], st, w) Q) := cf_wi rfl
theorem r_M_setsBeforeReading_47 {l0 l2 l3 : Option cf_AV} {x : Int32} {st : List cf_AV} {w : cf_Wd} {Q : cf_Rs → Prop} : cf_wp T_M_setsBeforeReading (47, [l0, some (.inl x), l2, l3], st, w) Q ↔ cf_wp T_M_setsBeforeReading (48, [l0, some (.inl x), l2, l3], .inl x :: st, w) Q := cf_w1 rfl
theorem r_M_setsBeforeReading_48 {l0 l1 l2 l3 : Option cf_AV} {st : List cf_AV} {w : cf_Wd} {Q : cf_Rs → Prop} : cf_wp T_M_setsBeforeReading (48, [l0, l1, l2, l3], st, w) Q ↔ cf_wp T_M_setsBeforeReading (49, [l0, l1, l2, l3], .inl 1 :: st, w) Q := cf_w1 rfl
theorem r_M_setsBeforeReading_49 {l0 l1 l2 : Option cf_AV} {x : Int32} {st : List cf_AV} {w : cf_Wd} {Q : cf_Rs → Prop} : cf_wp T_M_setsBeforeReading (49, [l0, l1, l2, some (.inl x)], st, w) Q ↔ cf_wp T_M_setsBeforeReading (50, [l0, l1, l2, some (.inl x)], .inl x :: st, w) Q := cf_w1 rfl
theorem r_M_setsBeforeReading_50 {l0 l1 l2 l3 : Option cf_AV} {a0 : Int32} {t0 t1 : cf_AV} {w : cf_Wd} {Q : cf_Rs → Prop} : cf_wp T_M_setsBeforeReading (50, [l0, l1, l2, l3], [.inl a0, t0, t1], w) Q ↔ ∃ x w1, F_M_left [.inl a0] w = some (some (.inl x), w1) ∧ cf_wp T_M_setsBeforeReading (53, [l0, l1, l2, l3], [.inl x, t0, t1], w1) Q := cf_wci (n := 1) (F := F_M_left) (nx := 53) rfl rfl cf_F_i
theorem c_M_setsBeforeReading_50 {l0 l1 l2 l3 : Option cf_AV} {a0 : Int32} {t0 t1 : cf_AV} {x1 : Int32} {w1 : cf_Wd} {w : cf_Wd} {Q : cf_Rs → Prop} (hs : F_M_left [.inl a0] w = some (some (.inl x1), w1)) : cf_wp T_M_setsBeforeReading (50, [l0, l1, l2, l3], [.inl a0, t0, t1], w) Q ↔ cf_wp T_M_setsBeforeReading (53, [l0, l1, l2, l3], [.inl x1, t0, t1], w1) Q := r_M_setsBeforeReading_50.trans (cf_xi hs)
theorem r_M_setsBeforeReading_53 {l0 l1 l2 l3 : Option cf_AV} {x y : Int32} {st : List cf_AV} {w : cf_Wd} {Q : cf_Rs → Prop} : cf_wp T_M_setsBeforeReading (53, [l0, l1, l2, l3], .inl y :: .inl x :: st, w) Q ↔ cf_wp T_M_setsBeforeReading (54, [l0, l1, l2, l3], .inl (x <<< (y &&& 31)) :: st, w) Q := cf_w1 rfl
theorem r_M_setsBeforeReading_54 {l0 l1 l2 l3 : Option cf_AV} {x y : Int32} {st : List cf_AV} {w : cf_Wd} {Q : cf_Rs → Prop} : cf_wp T_M_setsBeforeReading (54, [l0, l1, l2, l3], .inl y :: .inl x :: st, w) Q ↔ cf_wp T_M_setsBeforeReading (55, [l0, l1, l2, l3], .inl (x ||| y) :: st, w) Q := cf_w1 rfl
theorem r_M_setsBeforeReading_55 {l0 l1 l2 l3 : Option cf_AV} {x : Int32} {st : List cf_AV} {w : cf_Wd} {Q : cf_Rs → Prop} : cf_wp T_M_setsBeforeReading (55, [l0, l1, l2, l3], .inl x :: st, w) Q ↔ cf_wp T_M_setsBeforeReading (56, [l0, some (.inl x), l2, l3], st, w) Q := cf_w1 rfl
theorem r_M_setsBeforeReading_56 {l0 l1 l3 : Option cf_AV} {x : Int32} {st : List cf_AV} {w : cf_Wd} {Q : cf_Rs → Prop} : cf_wp T_M_setsBeforeReading (56, [l0, l1, some (.inl x), l3], st, w) Q ↔ cf_wp T_M_setsBeforeReading (59, [l0, l1, some (.inl (x + 1)), l3], st, w) Q := cf_w1 rfl
theorem r_M_setsBeforeReading_59 {l0 l1 l2 l3 : Option cf_AV} {st : List cf_AV} {w : cf_Wd} {Q : cf_Rs → Prop} : cf_wp T_M_setsBeforeReading (59, [l0, l1, l2, l3], st, w) Q ↔ cf_wp T_M_setsBeforeReading (4, [l0, l1, l2, l3], st, w) Q := cf_w1 rfl
theorem r_M_setsBeforeReading_62 {l0 l1 l2 l3 : Option cf_AV} {st : List cf_AV} {w : cf_Wd} {Q : cf_Rs → Prop} : cf_wp T_M_setsBeforeReading (62, [l0, l1, l2, l3], st, w) Q ↔ cf_wp T_M_setsBeforeReading (63, [l0, l1, l2, l3], .inl 1 :: st, w) Q := cf_w1 rfl
theorem r_M_setsBeforeReading_63 {l0 l1 l2 l3 : Option cf_AV} {x : Int32} {w : cf_Wd} {P : Int32 → cf_Wd → Prop} : cf_wp T_M_setsBeforeReading (63, [l0, l1, l2, l3], [.inl x], w) (cf_qb P) ↔ ((x = 0 ∨ x = 1) ∧ P x w) := Iff.trans (cf_wr (q := (some (.inl x), w)) rfl) Iff.rfl
theorem e_M_setsBeforeReading {w : cf_Wd} {P : Int32 → cf_Wd → Prop} (h : cf_wp T_M_setsBeforeReading (0, [some (.inr 5), none, none, none], [], w) (cf_qb P)) : ∃ x w1, F_M_setsBeforeReading [.inr 5] w = some (some (.inl x), w1) ∧ P x w1 := cf_eb rfl (Nat.le_of_ble_eq_true rfl) h
noncomputable def T_J_fill (pc : Nat) : cf_Rw := bif Nat.ble pc 6 then
 (bif Nat.ble pc 2 then
  (bif Nat.ble pc 0 then
   (bif Nat.beq pc 0 then cf_const 0 1 else cf_stuck)
   else
   (bif Nat.ble pc 1 then
    (bif Nat.beq pc 1 then cf_istore 2 2 else cf_stuck)
    else
    (bif Nat.beq pc 2 then cf_aload 0 3 else cf_stuck)))
  else
  (bif Nat.ble pc 4 then
   (bif Nat.ble pc 3 then
    (bif Nat.beq pc 3 then cf_alen 4 else cf_stuck)
    else
    (bif Nat.beq pc 4 then cf_istore 3 5 else cf_stuck))
   else
   (bif Nat.ble pc 5 then
    (bif Nat.beq pc 5 then cf_iload 2 6 else cf_stuck)
    else
    (bif Nat.beq pc 6 then cf_iload 3 7 else cf_stuck))))
 else
 (bif Nat.ble pc 12 then
  (bif Nat.ble pc 10 then
   (bif Nat.ble pc 7 then
    (bif Nat.beq pc 7 then cf_icge 20 10 else cf_stuck)
    else
    (bif Nat.beq pc 10 then cf_aload 0 11 else cf_stuck))
   else
   (bif Nat.ble pc 11 then
    (bif Nat.beq pc 11 then cf_iload 2 12 else cf_stuck)
    else
    (bif Nat.beq pc 12 then cf_iload 1 13 else cf_stuck)))
  else
  (bif Nat.ble pc 14 then
   (bif Nat.ble pc 13 then
    (bif Nat.beq pc 13 then cf_iast 14 else cf_stuck)
    else
    (bif Nat.beq pc 14 then cf_iinc 2 1 17 else cf_stuck))
   else
   (bif Nat.ble pc 17 then
    (bif Nat.beq pc 17 then cf_goto 5 else cf_stuck)
    else
    (bif Nat.beq pc 20 then cf_vret else cf_stuck))))
noncomputable def F_J_fill : List cf_AV → cf_Wd → Option cf_Rs := cf_F T_J_fill 4 none (cf_shS 2)
theorem r_J_fill_0 {l0 l1 l2 l3 : Option cf_AV} {st : List cf_AV} {w : cf_Wd} {Q : cf_Rs → Prop} : cf_wp T_J_fill (0, [l0, l1, l2, l3], st, w) Q ↔ cf_wp T_J_fill (1, [l0, l1, l2, l3], .inl 0 :: st, w) Q := cf_w1 rfl
theorem r_J_fill_1 {l0 l1 l2 l3 : Option cf_AV} {x : Int32} {st : List cf_AV} {w : cf_Wd} {Q : cf_Rs → Prop} : cf_wp T_J_fill (1, [l0, l1, l2, l3], .inl x :: st, w) Q ↔ cf_wp T_J_fill (2, [l0, l1, some (.inl x), l3], st, w) Q := cf_w1 rfl
theorem r_J_fill_2 {l1 l2 l3 : Option cf_AV} {k : Nat} {st : List cf_AV} {w : cf_Wd} {Q : cf_Rs → Prop} : cf_wp T_J_fill (2, [some (.inr k), l1, l2, l3], st, w) Q ↔ cf_wp T_J_fill (3, [some (.inr k), l1, l2, l3], .inr k :: st, w) Q := cf_w1 rfl
theorem r_J_fill_3 {l0 l1 l2 l3 : Option cf_AV} {k N : Nat} (hk : cf_shp k = .inl N) (h26 : Nat.blt k 26 = true) {st : List cf_AV} {w : cf_Wd} {Q : cf_Rs → Prop} : cf_wp T_J_fill (3, [l0, l1, l2, l3], .inr k :: st, w) Q ↔ cf_wp T_J_fill (4, [l0, l1, l2, l3], .inl (nI N) :: st, w) Q := cf_w1 (cf_alen_e hk h26 rfl)
theorem r_J_fill_4 {l0 l1 l2 l3 : Option cf_AV} {x : Int32} {st : List cf_AV} {w : cf_Wd} {Q : cf_Rs → Prop} : cf_wp T_J_fill (4, [l0, l1, l2, l3], .inl x :: st, w) Q ↔ cf_wp T_J_fill (5, [l0, l1, l2, some (.inl x)], st, w) Q := cf_w1 rfl
theorem r_J_fill_5 {l0 l1 l3 : Option cf_AV} {x : Int32} {st : List cf_AV} {w : cf_Wd} {Q : cf_Rs → Prop} : cf_wp T_J_fill (5, [l0, l1, some (.inl x), l3], st, w) Q ↔ cf_wp T_J_fill (6, [l0, l1, some (.inl x), l3], .inl x :: st, w) Q := cf_w1 rfl
theorem r_J_fill_6 {l0 l1 l2 : Option cf_AV} {x : Int32} {st : List cf_AV} {w : cf_Wd} {Q : cf_Rs → Prop} : cf_wp T_J_fill (6, [l0, l1, l2, some (.inl x)], st, w) Q ↔ cf_wp T_J_fill (7, [l0, l1, l2, some (.inl x)], .inl x :: st, w) Q := cf_w1 rfl
theorem r_J_fill_7 {l0 l1 l2 l3 : Option cf_AV} {x y : Int32} {st : List cf_AV} {w : cf_Wd} {Q : cf_Rs → Prop} : cf_wp T_J_fill (7, [l0, l1, l2, l3], .inl y :: .inl x :: st, w) Q ↔ (if y ≤ x then cf_wp T_J_fill (20, [l0, l1, l2, l3], st, w) Q else cf_wp T_J_fill (10, [l0, l1, l2, l3], st, w) Q) := cf_wi rfl
theorem r_J_fill_10 {l1 l2 l3 : Option cf_AV} {k : Nat} {st : List cf_AV} {w : cf_Wd} {Q : cf_Rs → Prop} : cf_wp T_J_fill (10, [some (.inr k), l1, l2, l3], st, w) Q ↔ cf_wp T_J_fill (11, [some (.inr k), l1, l2, l3], .inr k :: st, w) Q := cf_w1 rfl
theorem r_J_fill_11 {l0 l1 l3 : Option cf_AV} {x : Int32} {st : List cf_AV} {w : cf_Wd} {Q : cf_Rs → Prop} : cf_wp T_J_fill (11, [l0, l1, some (.inl x), l3], st, w) Q ↔ cf_wp T_J_fill (12, [l0, l1, some (.inl x), l3], .inl x :: st, w) Q := cf_w1 rfl
theorem r_J_fill_12 {l0 l2 l3 : Option cf_AV} {x : Int32} {st : List cf_AV} {w : cf_Wd} {Q : cf_Rs → Prop} : cf_wp T_J_fill (12, [l0, some (.inl x), l2, l3], st, w) Q ↔ cf_wp T_J_fill (13, [l0, some (.inl x), l2, l3], .inl x :: st, w) Q := cf_w1 rfl
theorem r_J_fill_13 {l0 l1 l2 l3 : Option cf_AV} {k N : Nat} (hk : cf_shp k = .inl N) {x i : Int32} {st : List cf_AV} {w : cf_Wd} {Q : cf_Rs → Prop} : cf_wp T_J_fill (13, [l0, l1, l2, l3], .inl x :: .inl i :: .inr k :: st, w) Q ↔ (cf_in i N = true ∧ cf_wp T_J_fill (14, [l0, l1, l2, l3], st, (cf_wa w k (upd (w k) i.toNatClampNeg x))) Q) := cf_wg (cf_iast_e hk rfl)
theorem r_J_fill_14 {l0 l1 l3 : Option cf_AV} {x : Int32} {st : List cf_AV} {w : cf_Wd} {Q : cf_Rs → Prop} : cf_wp T_J_fill (14, [l0, l1, some (.inl x), l3], st, w) Q ↔ cf_wp T_J_fill (17, [l0, l1, some (.inl (x + 1)), l3], st, w) Q := cf_w1 rfl
theorem r_J_fill_17 {l0 l1 l2 l3 : Option cf_AV} {st : List cf_AV} {w : cf_Wd} {Q : cf_Rs → Prop} : cf_wp T_J_fill (17, [l0, l1, l2, l3], st, w) Q ↔ cf_wp T_J_fill (5, [l0, l1, l2, l3], st, w) Q := cf_w1 rfl
theorem r_J_fill_20 {l0 l1 l2 l3 : Option cf_AV} {w : cf_Wd} {P : cf_Wd → Prop} : cf_wp T_J_fill (20, [l0, l1, l2, l3], [], w) (cf_qv P) ↔ P w := Iff.trans (cf_wr (q := (none, w)) rfl) Iff.rfl
theorem e_J_fill {k : Nat} {a1 : Int32} {w : cf_Wd} {P : cf_Wd → Prop} (h : cf_wp T_J_fill (0, [some (.inr k), some (.inl a1), none, none], [], w) (cf_qv P)) : ∃ w1, F_J_fill [.inr k, .inl a1] w = some (none, w1) ∧ P w1 := cf_ev rfl (Nat.le_of_ble_eq_true rfl) h
noncomputable def T_M_lineAfter (pc : Nat) : cf_Rw := bif Nat.ble pc 122 then
 (bif Nat.ble pc 83 then
  (bif Nat.ble pc 19 then
   (bif Nat.ble pc 9 then
    (bif Nat.ble pc 4 then
     (bif Nat.ble pc 0 then
      (bif Nat.beq pc 0 then cf_aload 0 1 else cf_stuck)
      else
      (bif Nat.ble pc 1 then
       (bif Nat.beq pc 1 then cf_get 1 0 4 else cf_stuck)
       else
       (bif Nat.beq pc 4 then cf_iload 1 5 else cf_stuck)))
     else
     (bif Nat.ble pc 5 then
      (bif Nat.beq pc 5 then cf_iald 6 else cf_stuck)
      else
      (bif Nat.ble pc 6 then
       (bif Nat.beq pc 6 then cf_call 1 F_M_left 9 else cf_stuck)
       else
       (bif Nat.beq pc 9 then cf_istore 2 10 else cf_stuck))))
    else
    (bif Nat.ble pc 14 then
     (bif Nat.ble pc 10 then
      (bif Nat.beq pc 10 then cf_aload 0 11 else cf_stuck)
      else
      (bif Nat.ble pc 11 then
       (bif Nat.beq pc 11 then cf_get 1 0 14 else cf_stuck)
       else
       (bif Nat.beq pc 14 then cf_iload 1 15 else cf_stuck)))
     else
     (bif Nat.ble pc 15 then
      (bif Nat.beq pc 15 then cf_iald 16 else cf_stuck)
      else
      (bif Nat.ble pc 16 then
       (bif Nat.beq pc 16 then cf_call 1 F_M_right 19 else cf_stuck)
       else
       (bif Nat.beq pc 19 then cf_istore 3 20 else cf_stuck)))))
   else
   (bif Nat.ble pc 29 then
    (bif Nat.ble pc 24 then
     (bif Nat.ble pc 20 then
      (bif Nat.beq pc 20 then cf_aload 0 21 else cf_stuck)
      else
      (bif Nat.ble pc 21 then
       (bif Nat.beq pc 21 then cf_get 1 0 24 else cf_stuck)
       else
       (bif Nat.beq pc 24 then cf_iload 1 25 else cf_stuck)))
     else
     (bif Nat.ble pc 25 then
      (bif Nat.beq pc 25 then cf_iald 26 else cf_stuck)
      else
      (bif Nat.ble pc 26 then
       (bif Nat.beq pc 26 then cf_call 1 F_M_operation 29 else cf_stuck)
       else
       (bif Nat.beq pc 29 then cf_tsw 1 8 196 [76, 86, 104, 126, 126, 144, 169, 181] else cf_stuck))))
    else
    (bif Nat.ble pc 80 then
     (bif Nat.ble pc 76 then
      (bif Nat.beq pc 76 then cf_aload 0 77 else cf_stuck)
      else
      (bif Nat.ble pc 77 then
       (bif Nat.beq pc 77 then cf_get 1 3 80 else cf_stuck)
       else
       (bif Nat.beq pc 80 then cf_iload 2 81 else cf_stuck)))
     else
     (bif Nat.ble pc 81 then
      (bif Nat.beq pc 81 then cf_iload 3 82 else cf_stuck)
      else
      (bif Nat.ble pc 82 then
       (bif Nat.beq pc 82 then cf_iast 83 else cf_stuck)
       else
       (bif Nat.beq pc 83 then cf_goto 196 else cf_stuck))))))
  else
  (bif Nat.ble pc 101 then
   (bif Nat.ble pc 93 then
    (bif Nat.ble pc 90 then
     (bif Nat.ble pc 86 then
      (bif Nat.beq pc 86 then cf_aload 0 87 else cf_stuck)
      else
      (bif Nat.ble pc 87 then
       (bif Nat.beq pc 87 then cf_get 1 3 90 else cf_stuck)
       else
       (bif Nat.beq pc 90 then cf_iload 2 91 else cf_stuck)))
     else
     (bif Nat.ble pc 91 then
      (bif Nat.beq pc 91 then cf_dup2 92 else cf_stuck)
      else
      (bif Nat.ble pc 92 then
       (bif Nat.beq pc 92 then cf_iald 93 else cf_stuck)
       else
       (bif Nat.beq pc 93 then cf_aload 0 94 else cf_stuck))))
    else
    (bif Nat.ble pc 98 then
     (bif Nat.ble pc 94 then
      (bif Nat.beq pc 94 then cf_get 1 3 97 else cf_stuck)
      else
      (bif Nat.ble pc 97 then
       (bif Nat.beq pc 97 then cf_iload 3 98 else cf_stuck)
       else
       (bif Nat.beq pc 98 then cf_iald 99 else cf_stuck)))
     else
     (bif Nat.ble pc 99 then
      (bif Nat.beq pc 99 then cf_bin (fun x y => x + y) 100 else cf_stuck)
      else
      (bif Nat.ble pc 100 then
       (bif Nat.beq pc 100 then cf_iast 101 else cf_stuck)
       else
       (bif Nat.beq pc 101 then cf_goto 196 else cf_stuck)))))
   else
   (bif Nat.ble pc 113 then
    (bif Nat.ble pc 108 then
     (bif Nat.ble pc 104 then
      (bif Nat.beq pc 104 then cf_aload 0 105 else cf_stuck)
      else
      (bif Nat.ble pc 105 then
       (bif Nat.beq pc 105 then cf_get 1 3 108 else cf_stuck)
       else
       (bif Nat.beq pc 108 then cf_iload 2 109 else cf_stuck)))
     else
     (bif Nat.ble pc 109 then
      (bif Nat.beq pc 109 then cf_iald 110 else cf_stuck)
      else
      (bif Nat.ble pc 110 then
       (bif Nat.beq pc 110 then cf_ifle 196 113 else cf_stuck)
       else
       (bif Nat.beq pc 113 then cf_aload 0 114 else cf_stuck))))
    else
    (bif Nat.ble pc 118 then
     (bif Nat.ble pc 114 then
      (bif Nat.beq pc 114 then cf_get 1 3 117 else cf_stuck)
      else
      (bif Nat.ble pc 117 then
       (bif Nat.beq pc 117 then cf_iload 2 118 else cf_stuck)
       else
       (bif Nat.beq pc 118 then cf_dup2 119 else cf_stuck)))
     else
     (bif Nat.ble pc 120 then
      (bif Nat.ble pc 119 then
       (bif Nat.beq pc 119 then cf_iald 120 else cf_stuck)
       else
       (bif Nat.beq pc 120 then cf_const 1 121 else cf_stuck))
      else
      (bif Nat.ble pc 121 then
       (bif Nat.beq pc 121 then cf_bin (fun x y => x - y) 122 else cf_stuck)
       else
       (bif Nat.beq pc 122 then cf_iast 123 else cf_stuck)))))))
 else
 (bif Nat.ble pc 162 then
  (bif Nat.ble pc 142 then
   (bif Nat.ble pc 132 then
    (bif Nat.ble pc 127 then
     (bif Nat.ble pc 123 then
      (bif Nat.beq pc 123 then cf_goto 196 else cf_stuck)
      else
      (bif Nat.ble pc 126 then
       (bif Nat.beq pc 126 then cf_aload 0 127 else cf_stuck)
       else
       (bif Nat.beq pc 127 then cf_get 1 3 130 else cf_stuck)))
     else
     (bif Nat.ble pc 130 then
      (bif Nat.beq pc 130 then cf_iload 2 131 else cf_stuck)
      else
      (bif Nat.ble pc 131 then
       (bif Nat.beq pc 131 then cf_iald 132 else cf_stuck)
       else
       (bif Nat.beq pc 132 then cf_ifne 196 135 else cf_stuck))))
    else
    (bif Nat.ble pc 139 then
     (bif Nat.ble pc 135 then
      (bif Nat.beq pc 135 then cf_aload 0 136 else cf_stuck)
      else
      (bif Nat.ble pc 136 then
       (bif Nat.beq pc 136 then cf_get 1 1 139 else cf_stuck)
       else
       (bif Nat.beq pc 139 then cf_iload 1 140 else cf_stuck)))
     else
     (bif Nat.ble pc 140 then
      (bif Nat.beq pc 140 then cf_iald 141 else cf_stuck)
      else
      (bif Nat.ble pc 141 then
       (bif Nat.beq pc 141 then cf_const 1 142 else cf_stuck)
       else
       (bif Nat.beq pc 142 then cf_bin (fun x y => x + y) 143 else cf_stuck)))))
   else
   (bif Nat.ble pc 152 then
    (bif Nat.ble pc 145 then
     (bif Nat.ble pc 143 then
      (bif Nat.beq pc 143 then cf_iret else cf_stuck)
      else
      (bif Nat.ble pc 144 then
       (bif Nat.beq pc 144 then cf_aload 0 145 else cf_stuck)
       else
       (bif Nat.beq pc 145 then cf_get 1 0 148 else cf_stuck)))
     else
     (bif Nat.ble pc 148 then
      (bif Nat.beq pc 148 then cf_aload 0 149 else cf_stuck)
      else
      (bif Nat.ble pc 149 then
       (bif Nat.beq pc 149 then cf_get 1 1 152 else cf_stuck)
       else
       (bif Nat.beq pc 152 then cf_iload 1 153 else cf_stuck))))
    else
    (bif Nat.ble pc 155 then
     (bif Nat.ble pc 153 then
      (bif Nat.beq pc 153 then cf_iald 154 else cf_stuck)
      else
      (bif Nat.ble pc 154 then
       (bif Nat.beq pc 154 then cf_iald 155 else cf_stuck)
       else
       (bif Nat.beq pc 155 then cf_call 1 F_M_operation 158 else cf_stuck)))
     else
     (bif Nat.ble pc 158 then
      (bif Nat.beq pc 158 then cf_const 4 159 else cf_stuck)
      else
      (bif Nat.ble pc 159 then
       (bif Nat.beq pc 159 then cf_icne 196 162 else cf_stuck)
       else
       (bif Nat.beq pc 162 then cf_aload 0 163 else cf_stuck))))))
  else
  (bif Nat.ble pc 180 then
   (bif Nat.ble pc 170 then
    (bif Nat.ble pc 167 then
     (bif Nat.ble pc 163 then
      (bif Nat.beq pc 163 then cf_get 1 1 166 else cf_stuck)
      else
      (bif Nat.ble pc 166 then
       (bif Nat.beq pc 166 then cf_iload 1 167 else cf_stuck)
       else
       (bif Nat.beq pc 167 then cf_iald 168 else cf_stuck)))
     else
     (bif Nat.ble pc 168 then
      (bif Nat.beq pc 168 then cf_iret else cf_stuck)
      else
      (bif Nat.ble pc 169 then
       (bif Nat.beq pc 169 then cf_aload 0 170 else cf_stuck)
       else
       (bif Nat.beq pc 170 then cf_get 1 3 173 else cf_stuck))))
    else
    (bif Nat.ble pc 175 then
     (bif Nat.ble pc 173 then
      (bif Nat.beq pc 173 then cf_iload 2 174 else cf_stuck)
      else
      (bif Nat.ble pc 174 then
       (bif Nat.beq pc 174 then cf_iald 175 else cf_stuck)
       else
       (bif Nat.beq pc 175 then cf_iload 3 176 else cf_stuck)))
     else
     (bif Nat.ble pc 176 then
      (bif Nat.beq pc 176 then cf_iceq 196 179 else cf_stuck)
      else
      (bif Nat.ble pc 179 then
       (bif Nat.beq pc 179 then cf_const (-1) 180 else cf_stuck)
       else
       (bif Nat.beq pc 180 then cf_iret else cf_stuck)))))
   else
   (bif Nat.ble pc 190 then
    (bif Nat.ble pc 185 then
     (bif Nat.ble pc 181 then
      (bif Nat.beq pc 181 then cf_aload 0 182 else cf_stuck)
      else
      (bif Nat.ble pc 182 then
       (bif Nat.beq pc 182 then cf_get 1 3 185 else cf_stuck)
       else
       (bif Nat.beq pc 185 then cf_iload 2 186 else cf_stuck)))
     else
     (bif Nat.ble pc 186 then
      (bif Nat.beq pc 186 then cf_aload 0 187 else cf_stuck)
      else
      (bif Nat.ble pc 187 then
       (bif Nat.beq pc 187 then cf_get 1 3 190 else cf_stuck)
       else
       (bif Nat.beq pc 190 then cf_iload 3 191 else cf_stuck))))
    else
    (bif Nat.ble pc 193 then
     (bif Nat.ble pc 191 then
      (bif Nat.beq pc 191 then cf_iald 192 else cf_stuck)
      else
      (bif Nat.ble pc 192 then
       (bif Nat.beq pc 192 then cf_iast 193 else cf_stuck)
       else
       (bif Nat.beq pc 193 then cf_goto 196 else cf_stuck)))
     else
     (bif Nat.ble pc 197 then
      (bif Nat.ble pc 196 then
       (bif Nat.beq pc 196 then cf_iload 1 197 else cf_stuck)
       else
       (bif Nat.beq pc 197 then cf_const 1 198 else cf_stuck))
      else
      (bif Nat.ble pc 198 then
       (bif Nat.beq pc 198 then cf_bin (fun x y => x + y) 199 else cf_stuck)
       else
       (bif Nat.beq pc 199 then cf_iret else cf_stuck)))))))
noncomputable def F_M_lineAfter : List cf_AV → cf_Wd → Option cf_Rs := cf_F T_M_lineAfter 4 (some .int) (cf_shV 5 1)
theorem r_M_lineAfter_0 {l1 l2 l3 : Option cf_AV} {k : Nat} {st : List cf_AV} {w : cf_Wd} {Q : cf_Rs → Prop} : cf_wp T_M_lineAfter (0, [some (.inr k), l1, l2, l3], st, w) Q ↔ cf_wp T_M_lineAfter (1, [some (.inr k), l1, l2, l3], .inr k :: st, w) Q := cf_w1 rfl
theorem r_M_lineAfter_1 {l0 l1 l2 l3 : Option cf_AV} {st : List cf_AV} {w : cf_Wd} {Q : cf_Rs → Prop} : cf_wp T_M_lineAfter (1, [l0, l1, l2, l3], .inr 5 :: st, w) Q ↔ cf_wp T_M_lineAfter (4, [l0, l1, l2, l3], .inr 6 :: st, w) Q := cf_w1 rfl
theorem r_M_lineAfter_4 {l0 l2 l3 : Option cf_AV} {x : Int32} {st : List cf_AV} {w : cf_Wd} {Q : cf_Rs → Prop} : cf_wp T_M_lineAfter (4, [l0, some (.inl x), l2, l3], st, w) Q ↔ cf_wp T_M_lineAfter (5, [l0, some (.inl x), l2, l3], .inl x :: st, w) Q := cf_w1 rfl
theorem r_M_lineAfter_5 {l0 l1 l2 l3 : Option cf_AV} {i : Int32} {st : List cf_AV} {w : cf_Wd} {Q : cf_Rs → Prop} : cf_wp T_M_lineAfter (5, [l0, l1, l2, l3], .inl i :: .inr 6 :: st, w) Q ↔ (cf_in i 8 = true ∧ cf_wp T_M_lineAfter (6, [l0, l1, l2, l3], .inl (w 6 i.toNatClampNeg) :: st, w) Q) := cf_wg rfl
theorem r_M_lineAfter_6 {l0 l1 l2 l3 : Option cf_AV} {a0 : Int32} {w : cf_Wd} {Q : cf_Rs → Prop} : cf_wp T_M_lineAfter (6, [l0, l1, l2, l3], [.inl a0], w) Q ↔ ∃ x w1, F_M_left [.inl a0] w = some (some (.inl x), w1) ∧ cf_wp T_M_lineAfter (9, [l0, l1, l2, l3], [.inl x], w1) Q := cf_wci (n := 1) (F := F_M_left) (nx := 9) rfl rfl cf_F_i
theorem c_M_lineAfter_6 {l0 l1 l2 l3 : Option cf_AV} {a0 : Int32} {x1 : Int32} {w1 : cf_Wd} {w : cf_Wd} {Q : cf_Rs → Prop} (hs : F_M_left [.inl a0] w = some (some (.inl x1), w1)) : cf_wp T_M_lineAfter (6, [l0, l1, l2, l3], [.inl a0], w) Q ↔ cf_wp T_M_lineAfter (9, [l0, l1, l2, l3], [.inl x1], w1) Q := r_M_lineAfter_6.trans (cf_xi hs)
theorem r_M_lineAfter_9 {l0 l1 l2 l3 : Option cf_AV} {x : Int32} {st : List cf_AV} {w : cf_Wd} {Q : cf_Rs → Prop} : cf_wp T_M_lineAfter (9, [l0, l1, l2, l3], .inl x :: st, w) Q ↔ cf_wp T_M_lineAfter (10, [l0, l1, some (.inl x), l3], st, w) Q := cf_w1 rfl
theorem r_M_lineAfter_10 {l1 l2 l3 : Option cf_AV} {k : Nat} {st : List cf_AV} {w : cf_Wd} {Q : cf_Rs → Prop} : cf_wp T_M_lineAfter (10, [some (.inr k), l1, l2, l3], st, w) Q ↔ cf_wp T_M_lineAfter (11, [some (.inr k), l1, l2, l3], .inr k :: st, w) Q := cf_w1 rfl
theorem r_M_lineAfter_11 {l0 l1 l2 l3 : Option cf_AV} {st : List cf_AV} {w : cf_Wd} {Q : cf_Rs → Prop} : cf_wp T_M_lineAfter (11, [l0, l1, l2, l3], .inr 5 :: st, w) Q ↔ cf_wp T_M_lineAfter (14, [l0, l1, l2, l3], .inr 6 :: st, w) Q := cf_w1 rfl
theorem r_M_lineAfter_14 {l0 l2 l3 : Option cf_AV} {x : Int32} {st : List cf_AV} {w : cf_Wd} {Q : cf_Rs → Prop} : cf_wp T_M_lineAfter (14, [l0, some (.inl x), l2, l3], st, w) Q ↔ cf_wp T_M_lineAfter (15, [l0, some (.inl x), l2, l3], .inl x :: st, w) Q := cf_w1 rfl
theorem r_M_lineAfter_15 {l0 l1 l2 l3 : Option cf_AV} {i : Int32} {st : List cf_AV} {w : cf_Wd} {Q : cf_Rs → Prop} : cf_wp T_M_lineAfter (15, [l0, l1, l2, l3], .inl i :: .inr 6 :: st, w) Q ↔ (cf_in i 8 = true ∧ cf_wp T_M_lineAfter (16, [l0, l1, l2, l3], .inl (w 6 i.toNatClampNeg) :: st, w) Q) := cf_wg rfl
theorem r_M_lineAfter_16 {l0 l1 l2 l3 : Option cf_AV} {a0 : Int32} {w : cf_Wd} {Q : cf_Rs → Prop} : cf_wp T_M_lineAfter (16, [l0, l1, l2, l3], [.inl a0], w) Q ↔ ∃ x w1, F_M_right [.inl a0] w = some (some (.inl x), w1) ∧ cf_wp T_M_lineAfter (19, [l0, l1, l2, l3], [.inl x], w1) Q := cf_wci (n := 1) (F := F_M_right) (nx := 19) rfl rfl cf_F_i
theorem c_M_lineAfter_16 {l0 l1 l2 l3 : Option cf_AV} {a0 : Int32} {x1 : Int32} {w1 : cf_Wd} {w : cf_Wd} {Q : cf_Rs → Prop} (hs : F_M_right [.inl a0] w = some (some (.inl x1), w1)) : cf_wp T_M_lineAfter (16, [l0, l1, l2, l3], [.inl a0], w) Q ↔ cf_wp T_M_lineAfter (19, [l0, l1, l2, l3], [.inl x1], w1) Q := r_M_lineAfter_16.trans (cf_xi hs)
theorem r_M_lineAfter_19 {l0 l1 l2 l3 : Option cf_AV} {x : Int32} {st : List cf_AV} {w : cf_Wd} {Q : cf_Rs → Prop} : cf_wp T_M_lineAfter (19, [l0, l1, l2, l3], .inl x :: st, w) Q ↔ cf_wp T_M_lineAfter (20, [l0, l1, l2, some (.inl x)], st, w) Q := cf_w1 rfl
theorem r_M_lineAfter_20 {l1 l2 l3 : Option cf_AV} {k : Nat} {st : List cf_AV} {w : cf_Wd} {Q : cf_Rs → Prop} : cf_wp T_M_lineAfter (20, [some (.inr k), l1, l2, l3], st, w) Q ↔ cf_wp T_M_lineAfter (21, [some (.inr k), l1, l2, l3], .inr k :: st, w) Q := cf_w1 rfl
theorem r_M_lineAfter_21 {l0 l1 l2 l3 : Option cf_AV} {st : List cf_AV} {w : cf_Wd} {Q : cf_Rs → Prop} : cf_wp T_M_lineAfter (21, [l0, l1, l2, l3], .inr 5 :: st, w) Q ↔ cf_wp T_M_lineAfter (24, [l0, l1, l2, l3], .inr 6 :: st, w) Q := cf_w1 rfl
theorem r_M_lineAfter_24 {l0 l2 l3 : Option cf_AV} {x : Int32} {st : List cf_AV} {w : cf_Wd} {Q : cf_Rs → Prop} : cf_wp T_M_lineAfter (24, [l0, some (.inl x), l2, l3], st, w) Q ↔ cf_wp T_M_lineAfter (25, [l0, some (.inl x), l2, l3], .inl x :: st, w) Q := cf_w1 rfl
theorem r_M_lineAfter_25 {l0 l1 l2 l3 : Option cf_AV} {i : Int32} {st : List cf_AV} {w : cf_Wd} {Q : cf_Rs → Prop} : cf_wp T_M_lineAfter (25, [l0, l1, l2, l3], .inl i :: .inr 6 :: st, w) Q ↔ (cf_in i 8 = true ∧ cf_wp T_M_lineAfter (26, [l0, l1, l2, l3], .inl (w 6 i.toNatClampNeg) :: st, w) Q) := cf_wg rfl
theorem r_M_lineAfter_26 {l0 l1 l2 l3 : Option cf_AV} {a0 : Int32} {w : cf_Wd} {Q : cf_Rs → Prop} : cf_wp T_M_lineAfter (26, [l0, l1, l2, l3], [.inl a0], w) Q ↔ ∃ x w1, F_M_operation [.inl a0] w = some (some (.inl x), w1) ∧ cf_wp T_M_lineAfter (29, [l0, l1, l2, l3], [.inl x], w1) Q := cf_wci (n := 1) (F := F_M_operation) (nx := 29) rfl rfl cf_F_i
theorem c_M_lineAfter_26 {l0 l1 l2 l3 : Option cf_AV} {a0 : Int32} {x1 : Int32} {w1 : cf_Wd} {w : cf_Wd} {Q : cf_Rs → Prop} (hs : F_M_operation [.inl a0] w = some (some (.inl x1), w1)) : cf_wp T_M_lineAfter (26, [l0, l1, l2, l3], [.inl a0], w) Q ↔ cf_wp T_M_lineAfter (29, [l0, l1, l2, l3], [.inl x1], w1) Q := r_M_lineAfter_26.trans (cf_xi hs)
theorem r_M_lineAfter_29_0 {l0 l1 l2 l3 : Option cf_AV} {st : List cf_AV} {w : cf_Wd} {Q : cf_Rs → Prop} : cf_wp T_M_lineAfter (29, [l0, l1, l2, l3], .inl 0 :: st, w) Q ↔ cf_wp T_M_lineAfter (196, [l0, l1, l2, l3], st, w) Q := cf_w1 (cf_tsw_e rfl (by decide +kernel))
theorem r_M_lineAfter_29_1 {l0 l1 l2 l3 : Option cf_AV} {st : List cf_AV} {w : cf_Wd} {Q : cf_Rs → Prop} : cf_wp T_M_lineAfter (29, [l0, l1, l2, l3], .inl 1 :: st, w) Q ↔ cf_wp T_M_lineAfter (76, [l0, l1, l2, l3], st, w) Q := cf_w1 (cf_tsw_e rfl (by decide +kernel))
theorem r_M_lineAfter_29_2 {l0 l1 l2 l3 : Option cf_AV} {st : List cf_AV} {w : cf_Wd} {Q : cf_Rs → Prop} : cf_wp T_M_lineAfter (29, [l0, l1, l2, l3], .inl 2 :: st, w) Q ↔ cf_wp T_M_lineAfter (86, [l0, l1, l2, l3], st, w) Q := cf_w1 (cf_tsw_e rfl (by decide +kernel))
theorem r_M_lineAfter_29_3 {l0 l1 l2 l3 : Option cf_AV} {st : List cf_AV} {w : cf_Wd} {Q : cf_Rs → Prop} : cf_wp T_M_lineAfter (29, [l0, l1, l2, l3], .inl 3 :: st, w) Q ↔ cf_wp T_M_lineAfter (104, [l0, l1, l2, l3], st, w) Q := cf_w1 (cf_tsw_e rfl (by decide +kernel))
theorem r_M_lineAfter_29_4 {l0 l1 l2 l3 : Option cf_AV} {st : List cf_AV} {w : cf_Wd} {Q : cf_Rs → Prop} : cf_wp T_M_lineAfter (29, [l0, l1, l2, l3], .inl 4 :: st, w) Q ↔ cf_wp T_M_lineAfter (126, [l0, l1, l2, l3], st, w) Q := cf_w1 (cf_tsw_e rfl (by decide +kernel))
theorem r_M_lineAfter_29_5 {l0 l1 l2 l3 : Option cf_AV} {st : List cf_AV} {w : cf_Wd} {Q : cf_Rs → Prop} : cf_wp T_M_lineAfter (29, [l0, l1, l2, l3], .inl 5 :: st, w) Q ↔ cf_wp T_M_lineAfter (126, [l0, l1, l2, l3], st, w) Q := cf_w1 (cf_tsw_e rfl (by decide +kernel))
theorem r_M_lineAfter_29_6 {l0 l1 l2 l3 : Option cf_AV} {st : List cf_AV} {w : cf_Wd} {Q : cf_Rs → Prop} : cf_wp T_M_lineAfter (29, [l0, l1, l2, l3], .inl 6 :: st, w) Q ↔ cf_wp T_M_lineAfter (144, [l0, l1, l2, l3], st, w) Q := cf_w1 (cf_tsw_e rfl (by decide +kernel))
theorem r_M_lineAfter_29_7 {l0 l1 l2 l3 : Option cf_AV} {st : List cf_AV} {w : cf_Wd} {Q : cf_Rs → Prop} : cf_wp T_M_lineAfter (29, [l0, l1, l2, l3], .inl 7 :: st, w) Q ↔ cf_wp T_M_lineAfter (169, [l0, l1, l2, l3], st, w) Q := cf_w1 (cf_tsw_e rfl (by decide +kernel))
theorem r_M_lineAfter_29_8 {l0 l1 l2 l3 : Option cf_AV} {st : List cf_AV} {w : cf_Wd} {Q : cf_Rs → Prop} : cf_wp T_M_lineAfter (29, [l0, l1, l2, l3], .inl 8 :: st, w) Q ↔ cf_wp T_M_lineAfter (181, [l0, l1, l2, l3], st, w) Q := cf_w1 (cf_tsw_e rfl (by decide +kernel))
theorem r_M_lineAfter_29_9 {l0 l1 l2 l3 : Option cf_AV} {st : List cf_AV} {w : cf_Wd} {Q : cf_Rs → Prop} : cf_wp T_M_lineAfter (29, [l0, l1, l2, l3], .inl 9 :: st, w) Q ↔ cf_wp T_M_lineAfter (196, [l0, l1, l2, l3], st, w) Q := cf_w1 (cf_tsw_e rfl (by decide +kernel))
theorem r_M_lineAfter_76 {l1 l2 l3 : Option cf_AV} {k : Nat} {st : List cf_AV} {w : cf_Wd} {Q : cf_Rs → Prop} : cf_wp T_M_lineAfter (76, [some (.inr k), l1, l2, l3], st, w) Q ↔ cf_wp T_M_lineAfter (77, [some (.inr k), l1, l2, l3], .inr k :: st, w) Q := cf_w1 rfl
theorem r_M_lineAfter_77 {l0 l1 l2 l3 : Option cf_AV} {st : List cf_AV} {w : cf_Wd} {Q : cf_Rs → Prop} : cf_wp T_M_lineAfter (77, [l0, l1, l2, l3], .inr 5 :: st, w) Q ↔ cf_wp T_M_lineAfter (80, [l0, l1, l2, l3], .inr 9 :: st, w) Q := cf_w1 rfl
theorem r_M_lineAfter_80 {l0 l1 l3 : Option cf_AV} {x : Int32} {st : List cf_AV} {w : cf_Wd} {Q : cf_Rs → Prop} : cf_wp T_M_lineAfter (80, [l0, l1, some (.inl x), l3], st, w) Q ↔ cf_wp T_M_lineAfter (81, [l0, l1, some (.inl x), l3], .inl x :: st, w) Q := cf_w1 rfl
theorem r_M_lineAfter_81 {l0 l1 l2 : Option cf_AV} {x : Int32} {st : List cf_AV} {w : cf_Wd} {Q : cf_Rs → Prop} : cf_wp T_M_lineAfter (81, [l0, l1, l2, some (.inl x)], st, w) Q ↔ cf_wp T_M_lineAfter (82, [l0, l1, l2, some (.inl x)], .inl x :: st, w) Q := cf_w1 rfl
theorem r_M_lineAfter_82 {l0 l1 l2 l3 : Option cf_AV} {x i : Int32} {st : List cf_AV} {w : cf_Wd} {Q : cf_Rs → Prop} : cf_wp T_M_lineAfter (82, [l0, l1, l2, l3], .inl x :: .inl i :: .inr 9 :: st, w) Q ↔ (cf_in i 10 = true ∧ cf_wp T_M_lineAfter (83, [l0, l1, l2, l3], st, (cf_wa w 9 (upd (w 9) i.toNatClampNeg x))) Q) := cf_wg rfl
theorem r_M_lineAfter_83 {l0 l1 l2 l3 : Option cf_AV} {st : List cf_AV} {w : cf_Wd} {Q : cf_Rs → Prop} : cf_wp T_M_lineAfter (83, [l0, l1, l2, l3], st, w) Q ↔ cf_wp T_M_lineAfter (196, [l0, l1, l2, l3], st, w) Q := cf_w1 rfl
theorem r_M_lineAfter_86 {l1 l2 l3 : Option cf_AV} {k : Nat} {st : List cf_AV} {w : cf_Wd} {Q : cf_Rs → Prop} : cf_wp T_M_lineAfter (86, [some (.inr k), l1, l2, l3], st, w) Q ↔ cf_wp T_M_lineAfter (87, [some (.inr k), l1, l2, l3], .inr k :: st, w) Q := cf_w1 rfl
theorem r_M_lineAfter_87 {l0 l1 l2 l3 : Option cf_AV} {st : List cf_AV} {w : cf_Wd} {Q : cf_Rs → Prop} : cf_wp T_M_lineAfter (87, [l0, l1, l2, l3], .inr 5 :: st, w) Q ↔ cf_wp T_M_lineAfter (90, [l0, l1, l2, l3], .inr 9 :: st, w) Q := cf_w1 rfl
theorem r_M_lineAfter_90 {l0 l1 l3 : Option cf_AV} {x : Int32} {st : List cf_AV} {w : cf_Wd} {Q : cf_Rs → Prop} : cf_wp T_M_lineAfter (90, [l0, l1, some (.inl x), l3], st, w) Q ↔ cf_wp T_M_lineAfter (91, [l0, l1, some (.inl x), l3], .inl x :: st, w) Q := cf_w1 rfl
theorem r_M_lineAfter_91 {l0 l1 l2 l3 : Option cf_AV} {v u : cf_AV} {st : List cf_AV} {w : cf_Wd} {Q : cf_Rs → Prop} : cf_wp T_M_lineAfter (91, [l0, l1, l2, l3], v :: u :: st, w) Q ↔ cf_wp T_M_lineAfter (92, [l0, l1, l2, l3], v :: u :: v :: u :: st, w) Q := cf_w1 rfl
theorem r_M_lineAfter_92 {l0 l1 l2 l3 : Option cf_AV} {i : Int32} {st : List cf_AV} {w : cf_Wd} {Q : cf_Rs → Prop} : cf_wp T_M_lineAfter (92, [l0, l1, l2, l3], .inl i :: .inr 9 :: st, w) Q ↔ (cf_in i 10 = true ∧ cf_wp T_M_lineAfter (93, [l0, l1, l2, l3], .inl (w 9 i.toNatClampNeg) :: st, w) Q) := cf_wg rfl
theorem r_M_lineAfter_93 {l1 l2 l3 : Option cf_AV} {k : Nat} {st : List cf_AV} {w : cf_Wd} {Q : cf_Rs → Prop} : cf_wp T_M_lineAfter (93, [some (.inr k), l1, l2, l3], st, w) Q ↔ cf_wp T_M_lineAfter (94, [some (.inr k), l1, l2, l3], .inr k :: st, w) Q := cf_w1 rfl
theorem r_M_lineAfter_94 {l0 l1 l2 l3 : Option cf_AV} {st : List cf_AV} {w : cf_Wd} {Q : cf_Rs → Prop} : cf_wp T_M_lineAfter (94, [l0, l1, l2, l3], .inr 5 :: st, w) Q ↔ cf_wp T_M_lineAfter (97, [l0, l1, l2, l3], .inr 9 :: st, w) Q := cf_w1 rfl
theorem r_M_lineAfter_97 {l0 l1 l2 : Option cf_AV} {x : Int32} {st : List cf_AV} {w : cf_Wd} {Q : cf_Rs → Prop} : cf_wp T_M_lineAfter (97, [l0, l1, l2, some (.inl x)], st, w) Q ↔ cf_wp T_M_lineAfter (98, [l0, l1, l2, some (.inl x)], .inl x :: st, w) Q := cf_w1 rfl
theorem r_M_lineAfter_98 {l0 l1 l2 l3 : Option cf_AV} {i : Int32} {st : List cf_AV} {w : cf_Wd} {Q : cf_Rs → Prop} : cf_wp T_M_lineAfter (98, [l0, l1, l2, l3], .inl i :: .inr 9 :: st, w) Q ↔ (cf_in i 10 = true ∧ cf_wp T_M_lineAfter (99, [l0, l1, l2, l3], .inl (w 9 i.toNatClampNeg) :: st, w) Q) := cf_wg rfl
theorem r_M_lineAfter_99 {l0 l1 l2 l3 : Option cf_AV} {x y : Int32} {st : List cf_AV} {w : cf_Wd} {Q : cf_Rs → Prop} : cf_wp T_M_lineAfter (99, [l0, l1, l2, l3], .inl y :: .inl x :: st, w) Q ↔ cf_wp T_M_lineAfter (100, [l0, l1, l2, l3], .inl (x + y) :: st, w) Q := cf_w1 rfl
theorem r_M_lineAfter_100 {l0 l1 l2 l3 : Option cf_AV} {x i : Int32} {st : List cf_AV} {w : cf_Wd} {Q : cf_Rs → Prop} : cf_wp T_M_lineAfter (100, [l0, l1, l2, l3], .inl x :: .inl i :: .inr 9 :: st, w) Q ↔ (cf_in i 10 = true ∧ cf_wp T_M_lineAfter (101, [l0, l1, l2, l3], st, (cf_wa w 9 (upd (w 9) i.toNatClampNeg x))) Q) := cf_wg rfl
theorem r_M_lineAfter_101 {l0 l1 l2 l3 : Option cf_AV} {st : List cf_AV} {w : cf_Wd} {Q : cf_Rs → Prop} : cf_wp T_M_lineAfter (101, [l0, l1, l2, l3], st, w) Q ↔ cf_wp T_M_lineAfter (196, [l0, l1, l2, l3], st, w) Q := cf_w1 rfl
theorem r_M_lineAfter_104 {l1 l2 l3 : Option cf_AV} {k : Nat} {st : List cf_AV} {w : cf_Wd} {Q : cf_Rs → Prop} : cf_wp T_M_lineAfter (104, [some (.inr k), l1, l2, l3], st, w) Q ↔ cf_wp T_M_lineAfter (105, [some (.inr k), l1, l2, l3], .inr k :: st, w) Q := cf_w1 rfl
theorem r_M_lineAfter_105 {l0 l1 l2 l3 : Option cf_AV} {st : List cf_AV} {w : cf_Wd} {Q : cf_Rs → Prop} : cf_wp T_M_lineAfter (105, [l0, l1, l2, l3], .inr 5 :: st, w) Q ↔ cf_wp T_M_lineAfter (108, [l0, l1, l2, l3], .inr 9 :: st, w) Q := cf_w1 rfl
theorem r_M_lineAfter_108 {l0 l1 l3 : Option cf_AV} {x : Int32} {st : List cf_AV} {w : cf_Wd} {Q : cf_Rs → Prop} : cf_wp T_M_lineAfter (108, [l0, l1, some (.inl x), l3], st, w) Q ↔ cf_wp T_M_lineAfter (109, [l0, l1, some (.inl x), l3], .inl x :: st, w) Q := cf_w1 rfl
theorem r_M_lineAfter_109 {l0 l1 l2 l3 : Option cf_AV} {i : Int32} {st : List cf_AV} {w : cf_Wd} {Q : cf_Rs → Prop} : cf_wp T_M_lineAfter (109, [l0, l1, l2, l3], .inl i :: .inr 9 :: st, w) Q ↔ (cf_in i 10 = true ∧ cf_wp T_M_lineAfter (110, [l0, l1, l2, l3], .inl (w 9 i.toNatClampNeg) :: st, w) Q) := cf_wg rfl
theorem r_M_lineAfter_110 {l0 l1 l2 l3 : Option cf_AV} {x : Int32} {st : List cf_AV} {w : cf_Wd} {Q : cf_Rs → Prop} : cf_wp T_M_lineAfter (110, [l0, l1, l2, l3], .inl x :: st, w) Q ↔ (if x ≤ 0 then cf_wp T_M_lineAfter (196, [l0, l1, l2, l3], st, w) Q else cf_wp T_M_lineAfter (113, [l0, l1, l2, l3], st, w) Q) := cf_wi rfl
theorem r_M_lineAfter_113 {l1 l2 l3 : Option cf_AV} {k : Nat} {st : List cf_AV} {w : cf_Wd} {Q : cf_Rs → Prop} : cf_wp T_M_lineAfter (113, [some (.inr k), l1, l2, l3], st, w) Q ↔ cf_wp T_M_lineAfter (114, [some (.inr k), l1, l2, l3], .inr k :: st, w) Q := cf_w1 rfl
theorem r_M_lineAfter_114 {l0 l1 l2 l3 : Option cf_AV} {st : List cf_AV} {w : cf_Wd} {Q : cf_Rs → Prop} : cf_wp T_M_lineAfter (114, [l0, l1, l2, l3], .inr 5 :: st, w) Q ↔ cf_wp T_M_lineAfter (117, [l0, l1, l2, l3], .inr 9 :: st, w) Q := cf_w1 rfl
theorem r_M_lineAfter_117 {l0 l1 l3 : Option cf_AV} {x : Int32} {st : List cf_AV} {w : cf_Wd} {Q : cf_Rs → Prop} : cf_wp T_M_lineAfter (117, [l0, l1, some (.inl x), l3], st, w) Q ↔ cf_wp T_M_lineAfter (118, [l0, l1, some (.inl x), l3], .inl x :: st, w) Q := cf_w1 rfl
theorem r_M_lineAfter_118 {l0 l1 l2 l3 : Option cf_AV} {v u : cf_AV} {st : List cf_AV} {w : cf_Wd} {Q : cf_Rs → Prop} : cf_wp T_M_lineAfter (118, [l0, l1, l2, l3], v :: u :: st, w) Q ↔ cf_wp T_M_lineAfter (119, [l0, l1, l2, l3], v :: u :: v :: u :: st, w) Q := cf_w1 rfl
theorem r_M_lineAfter_119 {l0 l1 l2 l3 : Option cf_AV} {i : Int32} {st : List cf_AV} {w : cf_Wd} {Q : cf_Rs → Prop} : cf_wp T_M_lineAfter (119, [l0, l1, l2, l3], .inl i :: .inr 9 :: st, w) Q ↔ (cf_in i 10 = true ∧ cf_wp T_M_lineAfter (120, [l0, l1, l2, l3], .inl (w 9 i.toNatClampNeg) :: st, w) Q) := cf_wg rfl
theorem r_M_lineAfter_120 {l0 l1 l2 l3 : Option cf_AV} {st : List cf_AV} {w : cf_Wd} {Q : cf_Rs → Prop} : cf_wp T_M_lineAfter (120, [l0, l1, l2, l3], st, w) Q ↔ cf_wp T_M_lineAfter (121, [l0, l1, l2, l3], .inl 1 :: st, w) Q := cf_w1 rfl
theorem r_M_lineAfter_121 {l0 l1 l2 l3 : Option cf_AV} {x y : Int32} {st : List cf_AV} {w : cf_Wd} {Q : cf_Rs → Prop} : cf_wp T_M_lineAfter (121, [l0, l1, l2, l3], .inl y :: .inl x :: st, w) Q ↔ cf_wp T_M_lineAfter (122, [l0, l1, l2, l3], .inl (x - y) :: st, w) Q := cf_w1 rfl
theorem r_M_lineAfter_122 {l0 l1 l2 l3 : Option cf_AV} {x i : Int32} {st : List cf_AV} {w : cf_Wd} {Q : cf_Rs → Prop} : cf_wp T_M_lineAfter (122, [l0, l1, l2, l3], .inl x :: .inl i :: .inr 9 :: st, w) Q ↔ (cf_in i 10 = true ∧ cf_wp T_M_lineAfter (123, [l0, l1, l2, l3], st, (cf_wa w 9 (upd (w 9) i.toNatClampNeg x))) Q) := cf_wg rfl
theorem r_M_lineAfter_123 {l0 l1 l2 l3 : Option cf_AV} {st : List cf_AV} {w : cf_Wd} {Q : cf_Rs → Prop} : cf_wp T_M_lineAfter (123, [l0, l1, l2, l3], st, w) Q ↔ cf_wp T_M_lineAfter (196, [l0, l1, l2, l3], st, w) Q := cf_w1 rfl
theorem r_M_lineAfter_126 {l1 l2 l3 : Option cf_AV} {k : Nat} {st : List cf_AV} {w : cf_Wd} {Q : cf_Rs → Prop} : cf_wp T_M_lineAfter (126, [some (.inr k), l1, l2, l3], st, w) Q ↔ cf_wp T_M_lineAfter (127, [some (.inr k), l1, l2, l3], .inr k :: st, w) Q := cf_w1 rfl
theorem r_M_lineAfter_127 {l0 l1 l2 l3 : Option cf_AV} {st : List cf_AV} {w : cf_Wd} {Q : cf_Rs → Prop} : cf_wp T_M_lineAfter (127, [l0, l1, l2, l3], .inr 5 :: st, w) Q ↔ cf_wp T_M_lineAfter (130, [l0, l1, l2, l3], .inr 9 :: st, w) Q := cf_w1 rfl
theorem r_M_lineAfter_130 {l0 l1 l3 : Option cf_AV} {x : Int32} {st : List cf_AV} {w : cf_Wd} {Q : cf_Rs → Prop} : cf_wp T_M_lineAfter (130, [l0, l1, some (.inl x), l3], st, w) Q ↔ cf_wp T_M_lineAfter (131, [l0, l1, some (.inl x), l3], .inl x :: st, w) Q := cf_w1 rfl
theorem r_M_lineAfter_131 {l0 l1 l2 l3 : Option cf_AV} {i : Int32} {st : List cf_AV} {w : cf_Wd} {Q : cf_Rs → Prop} : cf_wp T_M_lineAfter (131, [l0, l1, l2, l3], .inl i :: .inr 9 :: st, w) Q ↔ (cf_in i 10 = true ∧ cf_wp T_M_lineAfter (132, [l0, l1, l2, l3], .inl (w 9 i.toNatClampNeg) :: st, w) Q) := cf_wg rfl
theorem r_M_lineAfter_132 {l0 l1 l2 l3 : Option cf_AV} {x : Int32} {st : List cf_AV} {w : cf_Wd} {Q : cf_Rs → Prop} : cf_wp T_M_lineAfter (132, [l0, l1, l2, l3], .inl x :: st, w) Q ↔ (if ¬ x = 0 then cf_wp T_M_lineAfter (196, [l0, l1, l2, l3], st, w) Q else cf_wp T_M_lineAfter (135, [l0, l1, l2, l3], st, w) Q) := cf_wi rfl
theorem r_M_lineAfter_135 {l1 l2 l3 : Option cf_AV} {k : Nat} {st : List cf_AV} {w : cf_Wd} {Q : cf_Rs → Prop} : cf_wp T_M_lineAfter (135, [some (.inr k), l1, l2, l3], st, w) Q ↔ cf_wp T_M_lineAfter (136, [some (.inr k), l1, l2, l3], .inr k :: st, w) Q := cf_w1 rfl
theorem r_M_lineAfter_136 {l0 l1 l2 l3 : Option cf_AV} {st : List cf_AV} {w : cf_Wd} {Q : cf_Rs → Prop} : cf_wp T_M_lineAfter (136, [l0, l1, l2, l3], .inr 5 :: st, w) Q ↔ cf_wp T_M_lineAfter (139, [l0, l1, l2, l3], .inr 7 :: st, w) Q := cf_w1 rfl
theorem r_M_lineAfter_139 {l0 l2 l3 : Option cf_AV} {x : Int32} {st : List cf_AV} {w : cf_Wd} {Q : cf_Rs → Prop} : cf_wp T_M_lineAfter (139, [l0, some (.inl x), l2, l3], st, w) Q ↔ cf_wp T_M_lineAfter (140, [l0, some (.inl x), l2, l3], .inl x :: st, w) Q := cf_w1 rfl
theorem r_M_lineAfter_140 {l0 l1 l2 l3 : Option cf_AV} {i : Int32} {st : List cf_AV} {w : cf_Wd} {Q : cf_Rs → Prop} : cf_wp T_M_lineAfter (140, [l0, l1, l2, l3], .inl i :: .inr 7 :: st, w) Q ↔ (cf_in i 8 = true ∧ cf_wp T_M_lineAfter (141, [l0, l1, l2, l3], .inl (w 7 i.toNatClampNeg) :: st, w) Q) := cf_wg rfl
theorem r_M_lineAfter_141 {l0 l1 l2 l3 : Option cf_AV} {st : List cf_AV} {w : cf_Wd} {Q : cf_Rs → Prop} : cf_wp T_M_lineAfter (141, [l0, l1, l2, l3], st, w) Q ↔ cf_wp T_M_lineAfter (142, [l0, l1, l2, l3], .inl 1 :: st, w) Q := cf_w1 rfl
theorem r_M_lineAfter_142 {l0 l1 l2 l3 : Option cf_AV} {x y : Int32} {st : List cf_AV} {w : cf_Wd} {Q : cf_Rs → Prop} : cf_wp T_M_lineAfter (142, [l0, l1, l2, l3], .inl y :: .inl x :: st, w) Q ↔ cf_wp T_M_lineAfter (143, [l0, l1, l2, l3], .inl (x + y) :: st, w) Q := cf_w1 rfl
theorem r_M_lineAfter_143 {l0 l1 l2 l3 : Option cf_AV} {x : Int32} {w : cf_Wd} {P : Int32 → cf_Wd → Prop} : cf_wp T_M_lineAfter (143, [l0, l1, l2, l3], [.inl x], w) (cf_qi P) ↔ P x w := Iff.trans (cf_wr (q := (some (.inl x), w)) rfl) Iff.rfl
theorem r_M_lineAfter_144 {l1 l2 l3 : Option cf_AV} {k : Nat} {st : List cf_AV} {w : cf_Wd} {Q : cf_Rs → Prop} : cf_wp T_M_lineAfter (144, [some (.inr k), l1, l2, l3], st, w) Q ↔ cf_wp T_M_lineAfter (145, [some (.inr k), l1, l2, l3], .inr k :: st, w) Q := cf_w1 rfl
theorem r_M_lineAfter_145 {l0 l1 l2 l3 : Option cf_AV} {st : List cf_AV} {w : cf_Wd} {Q : cf_Rs → Prop} : cf_wp T_M_lineAfter (145, [l0, l1, l2, l3], .inr 5 :: st, w) Q ↔ cf_wp T_M_lineAfter (148, [l0, l1, l2, l3], .inr 6 :: st, w) Q := cf_w1 rfl
theorem r_M_lineAfter_148 {l1 l2 l3 : Option cf_AV} {k : Nat} {st : List cf_AV} {w : cf_Wd} {Q : cf_Rs → Prop} : cf_wp T_M_lineAfter (148, [some (.inr k), l1, l2, l3], st, w) Q ↔ cf_wp T_M_lineAfter (149, [some (.inr k), l1, l2, l3], .inr k :: st, w) Q := cf_w1 rfl
theorem r_M_lineAfter_149 {l0 l1 l2 l3 : Option cf_AV} {st : List cf_AV} {w : cf_Wd} {Q : cf_Rs → Prop} : cf_wp T_M_lineAfter (149, [l0, l1, l2, l3], .inr 5 :: st, w) Q ↔ cf_wp T_M_lineAfter (152, [l0, l1, l2, l3], .inr 7 :: st, w) Q := cf_w1 rfl
theorem r_M_lineAfter_152 {l0 l2 l3 : Option cf_AV} {x : Int32} {st : List cf_AV} {w : cf_Wd} {Q : cf_Rs → Prop} : cf_wp T_M_lineAfter (152, [l0, some (.inl x), l2, l3], st, w) Q ↔ cf_wp T_M_lineAfter (153, [l0, some (.inl x), l2, l3], .inl x :: st, w) Q := cf_w1 rfl
theorem r_M_lineAfter_153 {l0 l1 l2 l3 : Option cf_AV} {i : Int32} {st : List cf_AV} {w : cf_Wd} {Q : cf_Rs → Prop} : cf_wp T_M_lineAfter (153, [l0, l1, l2, l3], .inl i :: .inr 7 :: st, w) Q ↔ (cf_in i 8 = true ∧ cf_wp T_M_lineAfter (154, [l0, l1, l2, l3], .inl (w 7 i.toNatClampNeg) :: st, w) Q) := cf_wg rfl
theorem r_M_lineAfter_154 {l0 l1 l2 l3 : Option cf_AV} {i : Int32} {st : List cf_AV} {w : cf_Wd} {Q : cf_Rs → Prop} : cf_wp T_M_lineAfter (154, [l0, l1, l2, l3], .inl i :: .inr 6 :: st, w) Q ↔ (cf_in i 8 = true ∧ cf_wp T_M_lineAfter (155, [l0, l1, l2, l3], .inl (w 6 i.toNatClampNeg) :: st, w) Q) := cf_wg rfl
theorem r_M_lineAfter_155 {l0 l1 l2 l3 : Option cf_AV} {a0 : Int32} {w : cf_Wd} {Q : cf_Rs → Prop} : cf_wp T_M_lineAfter (155, [l0, l1, l2, l3], [.inl a0], w) Q ↔ ∃ x w1, F_M_operation [.inl a0] w = some (some (.inl x), w1) ∧ cf_wp T_M_lineAfter (158, [l0, l1, l2, l3], [.inl x], w1) Q := cf_wci (n := 1) (F := F_M_operation) (nx := 158) rfl rfl cf_F_i
theorem c_M_lineAfter_155 {l0 l1 l2 l3 : Option cf_AV} {a0 : Int32} {x1 : Int32} {w1 : cf_Wd} {w : cf_Wd} {Q : cf_Rs → Prop} (hs : F_M_operation [.inl a0] w = some (some (.inl x1), w1)) : cf_wp T_M_lineAfter (155, [l0, l1, l2, l3], [.inl a0], w) Q ↔ cf_wp T_M_lineAfter (158, [l0, l1, l2, l3], [.inl x1], w1) Q := r_M_lineAfter_155.trans (cf_xi hs)
theorem r_M_lineAfter_158 {l0 l1 l2 l3 : Option cf_AV} {st : List cf_AV} {w : cf_Wd} {Q : cf_Rs → Prop} : cf_wp T_M_lineAfter (158, [l0, l1, l2, l3], st, w) Q ↔ cf_wp T_M_lineAfter (159, [l0, l1, l2, l3], .inl 4 :: st, w) Q := cf_w1 rfl
theorem r_M_lineAfter_159 {l0 l1 l2 l3 : Option cf_AV} {x y : Int32} {st : List cf_AV} {w : cf_Wd} {Q : cf_Rs → Prop} : cf_wp T_M_lineAfter (159, [l0, l1, l2, l3], .inl y :: .inl x :: st, w) Q ↔ (if ¬ x = y then cf_wp T_M_lineAfter (196, [l0, l1, l2, l3], st, w) Q else cf_wp T_M_lineAfter (162, [l0, l1, l2, l3], st, w) Q) := cf_wi rfl
theorem r_M_lineAfter_162 {l1 l2 l3 : Option cf_AV} {k : Nat} {st : List cf_AV} {w : cf_Wd} {Q : cf_Rs → Prop} : cf_wp T_M_lineAfter (162, [some (.inr k), l1, l2, l3], st, w) Q ↔ cf_wp T_M_lineAfter (163, [some (.inr k), l1, l2, l3], .inr k :: st, w) Q := cf_w1 rfl
theorem r_M_lineAfter_163 {l0 l1 l2 l3 : Option cf_AV} {st : List cf_AV} {w : cf_Wd} {Q : cf_Rs → Prop} : cf_wp T_M_lineAfter (163, [l0, l1, l2, l3], .inr 5 :: st, w) Q ↔ cf_wp T_M_lineAfter (166, [l0, l1, l2, l3], .inr 7 :: st, w) Q := cf_w1 rfl
theorem r_M_lineAfter_166 {l0 l2 l3 : Option cf_AV} {x : Int32} {st : List cf_AV} {w : cf_Wd} {Q : cf_Rs → Prop} : cf_wp T_M_lineAfter (166, [l0, some (.inl x), l2, l3], st, w) Q ↔ cf_wp T_M_lineAfter (167, [l0, some (.inl x), l2, l3], .inl x :: st, w) Q := cf_w1 rfl
theorem r_M_lineAfter_167 {l0 l1 l2 l3 : Option cf_AV} {i : Int32} {st : List cf_AV} {w : cf_Wd} {Q : cf_Rs → Prop} : cf_wp T_M_lineAfter (167, [l0, l1, l2, l3], .inl i :: .inr 7 :: st, w) Q ↔ (cf_in i 8 = true ∧ cf_wp T_M_lineAfter (168, [l0, l1, l2, l3], .inl (w 7 i.toNatClampNeg) :: st, w) Q) := cf_wg rfl
theorem r_M_lineAfter_168 {l0 l1 l2 l3 : Option cf_AV} {x : Int32} {w : cf_Wd} {P : Int32 → cf_Wd → Prop} : cf_wp T_M_lineAfter (168, [l0, l1, l2, l3], [.inl x], w) (cf_qi P) ↔ P x w := Iff.trans (cf_wr (q := (some (.inl x), w)) rfl) Iff.rfl
theorem r_M_lineAfter_169 {l1 l2 l3 : Option cf_AV} {k : Nat} {st : List cf_AV} {w : cf_Wd} {Q : cf_Rs → Prop} : cf_wp T_M_lineAfter (169, [some (.inr k), l1, l2, l3], st, w) Q ↔ cf_wp T_M_lineAfter (170, [some (.inr k), l1, l2, l3], .inr k :: st, w) Q := cf_w1 rfl
theorem r_M_lineAfter_170 {l0 l1 l2 l3 : Option cf_AV} {st : List cf_AV} {w : cf_Wd} {Q : cf_Rs → Prop} : cf_wp T_M_lineAfter (170, [l0, l1, l2, l3], .inr 5 :: st, w) Q ↔ cf_wp T_M_lineAfter (173, [l0, l1, l2, l3], .inr 9 :: st, w) Q := cf_w1 rfl
theorem r_M_lineAfter_173 {l0 l1 l3 : Option cf_AV} {x : Int32} {st : List cf_AV} {w : cf_Wd} {Q : cf_Rs → Prop} : cf_wp T_M_lineAfter (173, [l0, l1, some (.inl x), l3], st, w) Q ↔ cf_wp T_M_lineAfter (174, [l0, l1, some (.inl x), l3], .inl x :: st, w) Q := cf_w1 rfl
theorem r_M_lineAfter_174 {l0 l1 l2 l3 : Option cf_AV} {i : Int32} {st : List cf_AV} {w : cf_Wd} {Q : cf_Rs → Prop} : cf_wp T_M_lineAfter (174, [l0, l1, l2, l3], .inl i :: .inr 9 :: st, w) Q ↔ (cf_in i 10 = true ∧ cf_wp T_M_lineAfter (175, [l0, l1, l2, l3], .inl (w 9 i.toNatClampNeg) :: st, w) Q) := cf_wg rfl
theorem r_M_lineAfter_175 {l0 l1 l2 : Option cf_AV} {x : Int32} {st : List cf_AV} {w : cf_Wd} {Q : cf_Rs → Prop} : cf_wp T_M_lineAfter (175, [l0, l1, l2, some (.inl x)], st, w) Q ↔ cf_wp T_M_lineAfter (176, [l0, l1, l2, some (.inl x)], .inl x :: st, w) Q := cf_w1 rfl
theorem r_M_lineAfter_176 {l0 l1 l2 l3 : Option cf_AV} {x y : Int32} {st : List cf_AV} {w : cf_Wd} {Q : cf_Rs → Prop} : cf_wp T_M_lineAfter (176, [l0, l1, l2, l3], .inl y :: .inl x :: st, w) Q ↔ (if x = y then cf_wp T_M_lineAfter (196, [l0, l1, l2, l3], st, w) Q else cf_wp T_M_lineAfter (179, [l0, l1, l2, l3], st, w) Q) := cf_wi rfl
theorem r_M_lineAfter_179 {l0 l1 l2 l3 : Option cf_AV} {st : List cf_AV} {w : cf_Wd} {Q : cf_Rs → Prop} : cf_wp T_M_lineAfter (179, [l0, l1, l2, l3], st, w) Q ↔ cf_wp T_M_lineAfter (180, [l0, l1, l2, l3], .inl (-1) :: st, w) Q := cf_w1 rfl
theorem r_M_lineAfter_180 {l0 l1 l2 l3 : Option cf_AV} {x : Int32} {w : cf_Wd} {P : Int32 → cf_Wd → Prop} : cf_wp T_M_lineAfter (180, [l0, l1, l2, l3], [.inl x], w) (cf_qi P) ↔ P x w := Iff.trans (cf_wr (q := (some (.inl x), w)) rfl) Iff.rfl
theorem r_M_lineAfter_181 {l1 l2 l3 : Option cf_AV} {k : Nat} {st : List cf_AV} {w : cf_Wd} {Q : cf_Rs → Prop} : cf_wp T_M_lineAfter (181, [some (.inr k), l1, l2, l3], st, w) Q ↔ cf_wp T_M_lineAfter (182, [some (.inr k), l1, l2, l3], .inr k :: st, w) Q := cf_w1 rfl
theorem r_M_lineAfter_182 {l0 l1 l2 l3 : Option cf_AV} {st : List cf_AV} {w : cf_Wd} {Q : cf_Rs → Prop} : cf_wp T_M_lineAfter (182, [l0, l1, l2, l3], .inr 5 :: st, w) Q ↔ cf_wp T_M_lineAfter (185, [l0, l1, l2, l3], .inr 9 :: st, w) Q := cf_w1 rfl
theorem r_M_lineAfter_185 {l0 l1 l3 : Option cf_AV} {x : Int32} {st : List cf_AV} {w : cf_Wd} {Q : cf_Rs → Prop} : cf_wp T_M_lineAfter (185, [l0, l1, some (.inl x), l3], st, w) Q ↔ cf_wp T_M_lineAfter (186, [l0, l1, some (.inl x), l3], .inl x :: st, w) Q := cf_w1 rfl
theorem r_M_lineAfter_186 {l1 l2 l3 : Option cf_AV} {k : Nat} {st : List cf_AV} {w : cf_Wd} {Q : cf_Rs → Prop} : cf_wp T_M_lineAfter (186, [some (.inr k), l1, l2, l3], st, w) Q ↔ cf_wp T_M_lineAfter (187, [some (.inr k), l1, l2, l3], .inr k :: st, w) Q := cf_w1 rfl
theorem r_M_lineAfter_187 {l0 l1 l2 l3 : Option cf_AV} {st : List cf_AV} {w : cf_Wd} {Q : cf_Rs → Prop} : cf_wp T_M_lineAfter (187, [l0, l1, l2, l3], .inr 5 :: st, w) Q ↔ cf_wp T_M_lineAfter (190, [l0, l1, l2, l3], .inr 9 :: st, w) Q := cf_w1 rfl
theorem r_M_lineAfter_190 {l0 l1 l2 : Option cf_AV} {x : Int32} {st : List cf_AV} {w : cf_Wd} {Q : cf_Rs → Prop} : cf_wp T_M_lineAfter (190, [l0, l1, l2, some (.inl x)], st, w) Q ↔ cf_wp T_M_lineAfter (191, [l0, l1, l2, some (.inl x)], .inl x :: st, w) Q := cf_w1 rfl
theorem r_M_lineAfter_191 {l0 l1 l2 l3 : Option cf_AV} {i : Int32} {st : List cf_AV} {w : cf_Wd} {Q : cf_Rs → Prop} : cf_wp T_M_lineAfter (191, [l0, l1, l2, l3], .inl i :: .inr 9 :: st, w) Q ↔ (cf_in i 10 = true ∧ cf_wp T_M_lineAfter (192, [l0, l1, l2, l3], .inl (w 9 i.toNatClampNeg) :: st, w) Q) := cf_wg rfl
theorem r_M_lineAfter_192 {l0 l1 l2 l3 : Option cf_AV} {x i : Int32} {st : List cf_AV} {w : cf_Wd} {Q : cf_Rs → Prop} : cf_wp T_M_lineAfter (192, [l0, l1, l2, l3], .inl x :: .inl i :: .inr 9 :: st, w) Q ↔ (cf_in i 10 = true ∧ cf_wp T_M_lineAfter (193, [l0, l1, l2, l3], st, (cf_wa w 9 (upd (w 9) i.toNatClampNeg x))) Q) := cf_wg rfl
theorem r_M_lineAfter_193 {l0 l1 l2 l3 : Option cf_AV} {st : List cf_AV} {w : cf_Wd} {Q : cf_Rs → Prop} : cf_wp T_M_lineAfter (193, [l0, l1, l2, l3], st, w) Q ↔ cf_wp T_M_lineAfter (196, [l0, l1, l2, l3], st, w) Q := cf_w1 rfl
theorem r_M_lineAfter_196 {l0 l2 l3 : Option cf_AV} {x : Int32} {st : List cf_AV} {w : cf_Wd} {Q : cf_Rs → Prop} : cf_wp T_M_lineAfter (196, [l0, some (.inl x), l2, l3], st, w) Q ↔ cf_wp T_M_lineAfter (197, [l0, some (.inl x), l2, l3], .inl x :: st, w) Q := cf_w1 rfl
theorem r_M_lineAfter_197 {l0 l1 l2 l3 : Option cf_AV} {st : List cf_AV} {w : cf_Wd} {Q : cf_Rs → Prop} : cf_wp T_M_lineAfter (197, [l0, l1, l2, l3], st, w) Q ↔ cf_wp T_M_lineAfter (198, [l0, l1, l2, l3], .inl 1 :: st, w) Q := cf_w1 rfl
theorem r_M_lineAfter_198 {l0 l1 l2 l3 : Option cf_AV} {x y : Int32} {st : List cf_AV} {w : cf_Wd} {Q : cf_Rs → Prop} : cf_wp T_M_lineAfter (198, [l0, l1, l2, l3], .inl y :: .inl x :: st, w) Q ↔ cf_wp T_M_lineAfter (199, [l0, l1, l2, l3], .inl (x + y) :: st, w) Q := cf_w1 rfl
theorem r_M_lineAfter_199 {l0 l1 l2 l3 : Option cf_AV} {x : Int32} {w : cf_Wd} {P : Int32 → cf_Wd → Prop} : cf_wp T_M_lineAfter (199, [l0, l1, l2, l3], [.inl x], w) (cf_qi P) ↔ P x w := Iff.trans (cf_wr (q := (some (.inl x), w)) rfl) Iff.rfl
theorem e_M_lineAfter {a1 : Int32} {w : cf_Wd} {P : Int32 → cf_Wd → Prop} (h : cf_wp T_M_lineAfter (0, [some (.inr 5), some (.inl a1), none, none], [], w) (cf_qi P)) : ∃ x w1, F_M_lineAfter [.inr 5, .inl a1] w = some (some (.inl x), w1) ∧ P x w1 := cf_ei rfl (Nat.le_of_ble_eq_true rfl) h
