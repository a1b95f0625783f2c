noncomputable def T_M_runWith (pc : Nat) : cf_Rw := bif Nat.ble pc 26 then
 (bif Nat.ble pc 14 then
  (bif Nat.ble pc 5 then
   (bif Nat.ble pc 1 then
    (bif Nat.ble pc 0 then
     (bif Nat.beq pc 0 then cf_aload 0 1 else cf_stuck)
     else
     (bif Nat.beq pc 1 then cf_get 1 3 4 else cf_stuck))
    else
    (bif Nat.ble pc 4 then
     (bif Nat.beq pc 4 then cf_const 0 5 else cf_stuck)
     else
     (bif Nat.beq pc 5 then cf_call 2 F_J_fill 8 else cf_stuck)))
   else
   (bif Nat.ble pc 9 then
    (bif Nat.ble pc 8 then
     (bif Nat.beq pc 8 then cf_aload 0 9 else cf_stuck)
     else
     (bif Nat.beq pc 9 then cf_get 1 3 12 else cf_stuck))
    else
    (bif Nat.ble pc 12 then
     (bif Nat.beq pc 12 then cf_const 0 13 else cf_stuck)
     else
     (bif Nat.ble pc 13 then
      (bif Nat.beq pc 13 then cf_iload 1 14 else cf_stuck)
      else
      (bif Nat.beq pc 14 then cf_iast 15 else cf_stuck)))))
  else
  (bif Nat.ble pc 18 then
   (bif Nat.ble pc 16 then
    (bif Nat.ble pc 15 then
     (bif Nat.beq pc 15 then cf_const 0 16 else cf_stuck)
     else
     (bif Nat.beq pc 16 then cf_istore 2 17 else cf_stuck))
    else
    (bif Nat.ble pc 17 then
     (bif Nat.beq pc 17 then cf_const 0 18 else cf_stuck)
     else
     (bif Nat.beq pc 18 then cf_istore 3 19 else cf_stuck)))
   else
   (bif Nat.ble pc 20 then
    (bif Nat.ble pc 19 then
     (bif Nat.beq pc 19 then cf_iload 3 20 else cf_stuck)
     else
     (bif Nat.beq pc 20 then cf_const 80 22 else cf_stuck))
    else
    (bif Nat.ble pc 22 then
     (bif Nat.beq pc 22 then cf_icge 50 25 else cf_stuck)
     else
     (bif Nat.ble pc 25 then
      (bif Nat.beq pc 25 then cf_iload 2 26 else cf_stuck)
      else
      (bif Nat.beq pc 26 then cf_const 8 28 else cf_stuck))))))
 else
 (bif Nat.ble pc 42 then
  (bif Nat.ble pc 33 then
   (bif Nat.ble pc 31 then
    (bif Nat.ble pc 28 then
     (bif Nat.beq pc 28 then cf_icge 50 31 else cf_stuck)
     else
     (bif Nat.beq pc 31 then cf_aload 0 32 else cf_stuck))
    else
    (bif Nat.ble pc 32 then
     (bif Nat.beq pc 32 then cf_iload 2 33 else cf_stuck)
     else
     (bif Nat.beq pc 33 then cf_call 2 F_M_lineAfter 36 else cf_stuck)))
   else
   (bif Nat.ble pc 37 then
    (bif Nat.ble pc 36 then
     (bif Nat.beq pc 36 then cf_istore 2 37 else cf_stuck)
     else
     (bif Nat.beq pc 37 then cf_iload 2 38 else cf_stuck))
    else
    (bif Nat.ble pc 38 then
     (bif Nat.beq pc 38 then cf_const (-1) 39 else cf_stuck)
     else
     (bif Nat.ble pc 39 then
      (bif Nat.beq pc 39 then cf_icne 44 42 else cf_stuck)
      else
      (bif Nat.beq pc 42 then cf_const 2 43 else cf_stuck)))))
  else
  (bif Nat.ble pc 51 then
   (bif Nat.ble pc 44 then
    (bif Nat.ble pc 43 then
     (bif Nat.beq pc 43 then cf_iret else cf_stuck)
     else
     (bif Nat.beq pc 44 then cf_iinc 3 1 47 else cf_stuck))
    else
    (bif Nat.ble pc 47 then
     (bif Nat.beq pc 47 then cf_goto 19 else cf_stuck)
     else
     (bif Nat.ble pc 50 then
      (bif Nat.beq pc 50 then cf_iload 2 51 else cf_stuck)
      else
      (bif Nat.beq pc 51 then cf_const 8 53 else cf_stuck))))
   else
   (bif Nat.ble pc 56 then
    (bif Nat.ble pc 53 then
     (bif Nat.beq pc 53 then cf_icge 60 56 else cf_stuck)
     else
     (bif Nat.beq pc 56 then cf_const 2 57 else cf_stuck))
    else
    (bif Nat.ble pc 57 then
     (bif Nat.beq pc 57 then cf_goto 61 else cf_stuck)
     else
     (bif Nat.ble pc 60 then
      (bif Nat.beq pc 60 then cf_const 1 61 else cf_stuck)
      else
      (bif Nat.beq pc 61 then cf_iret else cf_stuck))))))
noncomputable def F_M_runWith : List cf_AV → cf_Wd → Option cf_Rs := cf_F T_M_runWith 4 (some .int) (cf_shV 5 1)
theorem r_M_runWith_0 {l1 l2 l3 : Option cf_AV} {k : Nat} {st : List cf_AV} {w : cf_Wd} {Q : cf_Rs → Prop} : cf_wp T_M_runWith (0, [some (.inr k), l1, l2, l3], st, w) Q ↔ cf_wp T_M_runWith (1, [some (.inr k), l1, l2, l3], .inr k :: st, w) Q := cf_w1 rfl
theorem r_M_runWith_1 {l0 l1 l2 l3 : Option cf_AV} {st : List cf_AV} {w : cf_Wd} {Q : cf_Rs → Prop} : cf_wp T_M_runWith (1, [l0, l1, l2, l3], .inr 5 :: st, w) Q ↔ cf_wp T_M_runWith (4, [l0, l1, l2, l3], .inr 9 :: st, w) Q := cf_w1 rfl
theorem r_M_runWith_4 {l0 l1 l2 l3 : Option cf_AV} {st : List cf_AV} {w : cf_Wd} {Q : cf_Rs → Prop} : cf_wp T_M_runWith (4, [l0, l1, l2, l3], st, w) Q ↔ cf_wp T_M_runWith (5, [l0, l1, l2, l3], .inl 0 :: st, w) Q := cf_w1 rfl
theorem r_M_runWith_5 {l0 l1 l2 l3 : Option cf_AV} {a1 : Int32} {w : cf_Wd} {Q : cf_Rs → Prop} : cf_wp T_M_runWith (5, [l0, l1, l2, l3], [.inl a1, .inr 9], w) Q ↔ ∃ w1, F_J_fill [.inr 9, .inl a1] w = some (none, w1) ∧ cf_wp T_M_runWith (8, [l0, l1, l2, l3], [], w1) Q := cf_wcv (n := 2) (F := F_J_fill) (nx := 8) rfl rfl cf_F_v
theorem c_M_runWith_5 {l0 l1 l2 l3 : Option cf_AV} {a1 : Int32} {w1 : cf_Wd} {w : cf_Wd} {Q : cf_Rs → Prop} (hs : F_J_fill [.inr 9, .inl a1] w = some (none, w1)) : cf_wp T_M_runWith (5, [l0, l1, l2, l3], [.inl a1, .inr 9], w) Q ↔ cf_wp T_M_runWith (8, [l0, l1, l2, l3], [], w1) Q := r_M_runWith_5.trans (cf_xv hs)
theorem r_M_runWith_8 {l1 l2 l3 : Option cf_AV} {k : Nat} {st : List cf_AV} {w : cf_Wd} {Q : cf_Rs → Prop} : cf_wp T_M_runWith (8, [some (.inr k), l1, l2, l3], st, w) Q ↔ cf_wp T_M_runWith (9, [some (.inr k), l1, l2, l3], .inr k :: st, w) Q := cf_w1 rfl
theorem r_M_runWith_9 {l0 l1 l2 l3 : Option cf_AV} {st : List cf_AV} {w : cf_Wd} {Q : cf_Rs → Prop} : cf_wp T_M_runWith (9, [l0, l1, l2, l3], .inr 5 :: st, w) Q ↔ cf_wp T_M_runWith (12, [l0, l1, l2, l3], .inr 9 :: st, w) Q := cf_w1 rfl
theorem r_M_runWith_12 {l0 l1 l2 l3 : Option cf_AV} {st : List cf_AV} {w : cf_Wd} {Q : cf_Rs → Prop} : cf_wp T_M_runWith (12, [l0, l1, l2, l3], st, w) Q ↔ cf_wp T_M_runWith (13, [l0, l1, l2, l3], .inl 0 :: st, w) Q := cf_w1 rfl
theorem r_M_runWith_13 {l0 l2 l3 : Option cf_AV} {x : Int32} {st : List cf_AV} {w : cf_Wd} {Q : cf_Rs → Prop} : cf_wp T_M_runWith (13, [l0, some (.inl x), l2, l3], st, w) Q ↔ cf_wp T_M_runWith (14, [l0, some (.inl x), l2, l3], .inl x :: st, w) Q := cf_w1 rfl
theorem r_M_runWith_14 {l0 l1 l2 l3 : Option cf_AV} {x i : Int32} {st : List cf_AV} {w : cf_Wd} {Q : cf_Rs → Prop} : cf_wp T_M_runWith (14, [l0, l1, l2, l3], .inl x :: .inl i :: .inr 9 :: st, w) Q ↔ (cf_in i 10 = true ∧ cf_wp T_M_runWith (15, [l0, l1, l2, l3], st, (cf_wa w 9 (upd (w 9) i.toNatClampNeg x))) Q) := cf_wg rfl
theorem r_M_runWith_15 {l0 l1 l2 l3 : Option cf_AV} {st : List cf_AV} {w : cf_Wd} {Q : cf_Rs → Prop} : cf_wp T_M_runWith (15, [l0, l1, l2, l3], st, w) Q ↔ cf_wp T_M_runWith (16, [l0, l1, l2, l3], .inl 0 :: st, w) Q := cf_w1 rfl
theorem r_M_runWith_16 {l0 l1 l2 l3 : Option cf_AV} {x : Int32} {st : List cf_AV} {w : cf_Wd} {Q : cf_Rs → Prop} : cf_wp T_M_runWith (16, [l0, l1, l2, l3], .inl x :: st, w) Q ↔ cf_wp T_M_runWith (17, [l0, l1, some (.inl x), l3], st, w) Q := cf_w1 rfl
theorem r_M_runWith_17 {l0 l1 l2 l3 : Option cf_AV} {st : List cf_AV} {w : cf_Wd} {Q : cf_Rs → Prop} : cf_wp T_M_runWith (17, [l0, l1, l2, l3], st, w) Q ↔ cf_wp T_M_runWith (18, [l0, l1, l2, l3], .inl 0 :: st, w) Q := cf_w1 rfl
theorem r_M_runWith_18 {l0 l1 l2 l3 : Option cf_AV} {x : Int32} {st : List cf_AV} {w : cf_Wd} {Q : cf_Rs → Prop} : cf_wp T_M_runWith (18, [l0, l1, l2, l3], .inl x :: st, w) Q ↔ cf_wp T_M_runWith (19, [l0, l1, l2, some (.inl x)], st, w) Q := cf_w1 rfl
theorem r_M_runWith_19 {l0 l1 l2 : Option cf_AV} {x : Int32} {st : List cf_AV} {w : cf_Wd} {Q : cf_Rs → Prop} : cf_wp T_M_runWith (19, [l0, l1, l2, some (.inl x)], st, w) Q ↔ cf_wp T_M_runWith (20, [l0, l1, l2, some (.inl x)], .inl x :: st, w) Q := cf_w1 rfl
theorem r_M_runWith_20 {l0 l1 l2 l3 : Option cf_AV} {st : List cf_AV} {w : cf_Wd} {Q : cf_Rs → Prop} : cf_wp T_M_runWith (20, [l0, l1, l2, l3], st, w) Q ↔ cf_wp T_M_runWith (22, [l0, l1, l2, l3], .inl 80 :: st, w) Q := cf_w1 rfl
theorem r_M_runWith_22 {l0 l1 l2 l3 : Option cf_AV} {x y : Int32} {st : List cf_AV} {w : cf_Wd} {Q : cf_Rs → Prop} : cf_wp T_M_runWith (22, [l0, l1, l2, l3], .inl y :: .inl x :: st, w) Q ↔ (if y ≤ x then cf_wp T_M_runWith (50, [l0, l1, l2, l3], st, w) Q else cf_wp T_M_runWith (25, [l0, l1, l2, l3], st, w) Q) := cf_wi rfl
theorem r_M_runWith_25 {l0 l1 l3 : Option cf_AV} {x : Int32} {st : List cf_AV} {w : cf_Wd} {Q : cf_Rs → Prop} : cf_wp T_M_runWith (25, [l0, l1, some (.inl x), l3], st, w) Q ↔ cf_wp T_M_runWith (26, [l0, l1, some (.inl x), l3], .inl x :: st, w) Q := cf_w1 rfl
theorem r_M_runWith_26 {l0 l1 l2 l3 : Option cf_AV} {st : List cf_AV} {w : cf_Wd} {Q : cf_Rs → Prop} : cf_wp T_M_runWith (26, [l0, l1, l2, l3], st, w) Q ↔ cf_wp T_M_runWith (28, [l0, l1, l2, l3], .inl 8 :: st, w) Q := cf_w1 rfl
theorem r_M_runWith_28 {l0 l1 l2 l3 : Option cf_AV} {x y : Int32} {st : List cf_AV} {w : cf_Wd} {Q : cf_Rs → Prop} : cf_wp T_M_runWith (28, [l0, l1, l2, l3], .inl y :: .inl x :: st, w) Q ↔ (if y ≤ x then cf_wp T_M_runWith (50, [l0, l1, l2, l3], st, w) Q else cf_wp T_M_runWith (31, [l0, l1, l2, l3], st, w) Q) := cf_wi rfl
theorem r_M_runWith_31 {l1 l2 l3 : Option cf_AV} {k : Nat} {st : List cf_AV} {w : cf_Wd} {Q : cf_Rs → Prop} : cf_wp T_M_runWith (31, [some (.inr k), l1, l2, l3], st, w) Q ↔ cf_wp T_M_runWith (32, [some (.inr k), l1, l2, l3], .inr k :: st, w) Q := cf_w1 rfl
theorem r_M_runWith_32 {l0 l1 l3 : Option cf_AV} {x : Int32} {st : List cf_AV} {w : cf_Wd} {Q : cf_Rs → Prop} : cf_wp T_M_runWith (32, [l0, l1, some (.inl x), l3], st, w) Q ↔ cf_wp T_M_runWith (33, [l0, l1, some (.inl x), l3], .inl x :: st, w) Q := cf_w1 rfl
theorem r_M_runWith_33 {l0 l1 l2 l3 : Option cf_AV} {a1 : Int32} {w : cf_Wd} {Q : cf_Rs → Prop} : cf_wp T_M_runWith (33, [l0, l1, l2, l3], [.inl a1, .inr 5], w) Q ↔ ∃ x w1, F_M_lineAfter [.inr 5, .inl a1] w = some (some (.inl x), w1) ∧ cf_wp T_M_runWith (36, [l0, l1, l2, l3], [.inl x], w1) Q := cf_wci (n := 2) (F := F_M_lineAfter) (nx := 36) rfl rfl cf_F_i
theorem c_M_runWith_33 {l0 l1 l2 l3 : Option cf_AV} {a1 : Int32} {x1 : Int32} {w1 : cf_Wd} {w : cf_Wd} {Q : cf_Rs → Prop} (hs : F_M_lineAfter [.inr 5, .inl a1] w = some (some (.inl x1), w1)) : cf_wp T_M_runWith (33, [l0, l1, l2, l3], [.inl a1, .inr 5], w) Q ↔ cf_wp T_M_runWith (36, [l0, l1, l2, l3], [.inl x1], w1) Q := r_M_runWith_33.trans (cf_xi hs)
theorem r_M_runWith_36 {l0 l1 l2 l3 : Option cf_AV} {x : Int32} {st : List cf_AV} {w : cf_Wd} {Q : cf_Rs → Prop} : cf_wp T_M_runWith (36, [l0, l1, l2, l3], .inl x :: st, w) Q ↔ cf_wp T_M_runWith (37, [l0, l1, some (.inl x), l3], st, w) Q := cf_w1 rfl
theorem r_M_runWith_37 {l0 l1 l3 : Option cf_AV} {x : Int32} {st : List cf_AV} {w : cf_Wd} {Q : cf_Rs → Prop} : cf_wp T_M_runWith (37, [l0, l1, some (.inl x), l3], st, w) Q ↔ cf_wp T_M_runWith (38, [l0, l1, some (.inl x), l3], .inl x :: st, w) Q := cf_w1 rfl
theorem r_M_runWith_38 {l0 l1 l2 l3 : Option cf_AV} {st : List cf_AV} {w : cf_Wd} {Q : cf_Rs → Prop} : cf_wp T_M_runWith (38, [l0, l1, l2, l3], st, w) Q ↔ cf_wp T_M_runWith (39, [l0, l1, l2, l3], .inl (-1) :: st, w) Q := cf_w1 rfl
theorem r_M_runWith_39 {l0 l1 l2 l3 : Option cf_AV} {x y : Int32} {st : List cf_AV} {w : cf_Wd} {Q : cf_Rs → Prop} : cf_wp T_M_runWith (39, [l0, l1, l2, l3], .inl y :: .inl x :: st, w) Q ↔ (if ¬ x = y then cf_wp T_M_runWith (44, [l0, l1, l2, l3], st, w) Q else cf_wp T_M_runWith (42, [l0, l1, l2, l3], st, w) Q) := cf_wi rfl
theorem r_M_runWith_42 {l0 l1 l2 l3 : Option cf_AV} {st : List cf_AV} {w : cf_Wd} {Q : cf_Rs → Prop} : cf_wp T_M_runWith (42, [l0, l1, l2, l3], st, w) Q ↔ cf_wp T_M_runWith (43, [l0, l1, l2, l3], .inl 2 :: st, w) Q := cf_w1 rfl
theorem r_M_runWith_43 {l0 l1 l2 l3 : Option cf_AV} {x : Int32} {w : cf_Wd} {P : Int32 → cf_Wd → Prop} : cf_wp T_M_runWith (43, [l0, l1, l2, l3], [.inl x], w) (cf_qi P) ↔ P x w := Iff.trans (cf_wr (q := (some (.inl x), w)) rfl) Iff.rfl
theorem r_M_runWith_44 {l0 l1 l2 : Option cf_AV} {x : Int32} {st : List cf_AV} {w : cf_Wd} {Q : cf_Rs → Prop} : cf_wp T_M_runWith (44, [l0, l1, l2, some (.inl x)], st, w) Q ↔ cf_wp T_M_runWith (47, [l0, l1, l2, some (.inl (x + 1))], st, w) Q := cf_w1 rfl
theorem r_M_runWith_47 {l0 l1 l2 l3 : Option cf_AV} {st : List cf_AV} {w : cf_Wd} {Q : cf_Rs → Prop} : cf_wp T_M_runWith (47, [l0, l1, l2, l3], st, w) Q ↔ cf_wp T_M_runWith (19, [l0, l1, l2, l3], st, w) Q := cf_w1 rfl
theorem r_M_runWith_50 {l0 l1 l3 : Option cf_AV} {x : Int32} {st : List cf_AV} {w : cf_Wd} {Q : cf_Rs → Prop} : cf_wp T_M_runWith (50, [l0, l1, some (.inl x), l3], st, w) Q ↔ cf_wp T_M_runWith (51, [l0, l1, some (.inl x), l3], .inl x :: st, w) Q := cf_w1 rfl
theorem r_M_runWith_51 {l0 l1 l2 l3 : Option cf_AV} {st : List cf_AV} {w : cf_Wd} {Q : cf_Rs → Prop} : cf_wp T_M_runWith (51, [l0, l1, l2, l3], st, w) Q ↔ cf_wp T_M_runWith (53, [l0, l1, l2, l3], .inl 8 :: st, w) Q := cf_w1 rfl
theorem r_M_runWith_53 {l0 l1 l2 l3 : Option cf_AV} {x y : Int32} {st : List cf_AV} {w : cf_Wd} {Q : cf_Rs → Prop} : cf_wp T_M_runWith (53, [l0, l1, l2, l3], .inl y :: .inl x :: st, w) Q ↔ (if y ≤ x then cf_wp T_M_runWith (60, [l0, l1, l2, l3], st, w) Q else cf_wp T_M_runWith (56, [l0, l1, l2, l3], st, w) Q) := cf_wi rfl
theorem r_M_runWith_56 {l0 l1 l2 l3 : Option cf_AV} {st : List cf_AV} {w : cf_Wd} {Q : cf_Rs → Prop} : cf_wp T_M_runWith (56, [l0, l1, l2, l3], st, w) Q ↔ cf_wp T_M_runWith (57, [l0, l1, l2, l3], .inl 2 :: st, w) Q := cf_w1 rfl
theorem r_M_runWith_57 {l0 l1 l2 l3 : Option cf_AV} {st : List cf_AV} {w : cf_Wd} {Q : cf_Rs → Prop} : cf_wp T_M_runWith (57, [l0, l1, l2, l3], st, w) Q ↔ cf_wp T_M_runWith (61, [l0, l1, l2, l3], st, w) Q := cf_w1 rfl
theorem r_M_runWith_60 {l0 l1 l2 l3 : Option cf_AV} {st : List cf_AV} {w : cf_Wd} {Q : cf_Rs → Prop} : cf_wp T_M_runWith (60, [l0, l1, l2, l3], st, w) Q ↔ cf_wp T_M_runWith (61, [l0, l1, l2, l3], .inl 1 :: st, w) Q := cf_w1 rfl
theorem r_M_runWith_61 {l0 l1 l2 l3 : Option cf_AV} {x : Int32} {w : cf_Wd} {P : Int32 → cf_Wd → Prop} : cf_wp T_M_runWith (61, [l0, l1, l2, l3], [.inl x], w) (cf_qi P) ↔ P x w := Iff.trans (cf_wr (q := (some (.inl x), w)) rfl) Iff.rfl
theorem e_M_runWith {a1 : Int32} {w : cf_Wd} {P : Int32 → cf_Wd → Prop} (h : cf_wp T_M_runWith (0, [some (.inr 5), some (.inl a1), none, none], [], w) (cf_qi P)) : ∃ x w1, F_M_runWith [.inr 5, .inl a1] w = some (some (.inl x), w1) ∧ P x w1 := cf_ei rfl (Nat.le_of_ble_eq_true rfl) h
noncomputable def T_M_judge (pc : Nat) : cf_Rw := bif Nat.ble pc 14 then
 (bif Nat.ble pc 4 then
  (bif Nat.ble pc 0 then
   (bif Nat.beq pc 0 then cf_aload 0 1 else cf_stuck)
   else
   (bif Nat.ble pc 1 then
    (bif Nat.beq pc 1 then cf_call 1 F_M_hasOperations 4 else cf_stuck)
    else
    (bif Nat.beq pc 4 then cf_ifeq 21 7 else cf_stuck)))
  else
  (bif Nat.ble pc 8 then
   (bif Nat.ble pc 7 then
    (bif Nat.beq pc 7 then cf_aload 0 8 else cf_stuck)
    else
    (bif Nat.beq pc 8 then cf_call 1 F_M_pairsBlocks 11 else cf_stuck))
   else
   (bif Nat.ble pc 11 then
    (bif Nat.beq pc 11 then cf_ifeq 21 14 else cf_stuck)
    else
    (bif Nat.beq pc 14 then cf_aload 0 15 else cf_stuck))))
 else
 (bif Nat.ble pc 22 then
  (bif Nat.ble pc 18 then
   (bif Nat.ble pc 15 then
    (bif Nat.beq pc 15 then cf_call 1 F_M_setsBeforeReading 18 else cf_stuck)
    else
    (bif Nat.beq pc 18 then cf_ifne 23 21 else cf_stuck))
   else
   (bif Nat.ble pc 21 then
    (bif Nat.beq pc 21 then cf_const 3 22 else cf_stuck)
    else
    (bif Nat.beq pc 22 then cf_iret else cf_stuck)))
  else
  (bif Nat.ble pc 24 then
   (bif Nat.ble pc 23 then
    (bif Nat.beq pc 23 then cf_aload 0 24 else cf_stuck)
    else
    (bif Nat.beq pc 24 then cf_iload 1 25 else cf_stuck))
   else
   (bif Nat.ble pc 25 then
    (bif Nat.beq pc 25 then cf_call 2 F_M_runWith 28 else cf_stuck)
    else
    (bif Nat.beq pc 28 then cf_iret else cf_stuck))))
noncomputable def F_M_judge : List cf_AV → cf_Wd → Option cf_Rs := cf_F T_M_judge 2 (some .int) (cf_shV 5 1)
theorem r_M_judge_0 {l1 : Option cf_AV} {k : Nat} {st : List cf_AV} {w : cf_Wd} {Q : cf_Rs → Prop} : cf_wp T_M_judge (0, [some (.inr k), l1], st, w) Q ↔ cf_wp T_M_judge (1, [some (.inr k), l1], .inr k :: st, w) Q := cf_w1 rfl
theorem r_M_judge_1 {l0 l1 : Option cf_AV} {w : cf_Wd} {Q : cf_Rs → Prop} : cf_wp T_M_judge (1, [l0, l1], [.inr 5], w) Q ↔ ∃ x w1, F_M_hasOperations [.inr 5] w = some (some (.inl x), w1) ∧ cf_wp T_M_judge (4, [l0, l1], [.inl x], w1) Q := cf_wci (n := 1) (F := F_M_hasOperations) (nx := 4) rfl rfl cf_F_b
theorem c_M_judge_1 {l0 l1 : Option cf_AV} {x1 : Int32} {w1 : cf_Wd} {w : cf_Wd} {Q : cf_Rs → Prop} (hs : F_M_hasOperations [.inr 5] w = some (some (.inl x1), w1)) : cf_wp T_M_judge (1, [l0, l1], [.inr 5], w) Q ↔ cf_wp T_M_judge (4, [l0, l1], [.inl x1], w1) Q := r_M_judge_1.trans (cf_xi hs)
theorem r_M_judge_4 {l0 l1 : Option cf_AV} {x : Int32} {st : List cf_AV} {w : cf_Wd} {Q : cf_Rs → Prop} : cf_wp T_M_judge (4, [l0, l1], .inl x :: st, w) Q ↔ (if x = 0 then cf_wp T_M_judge (21, [l0, l1], st, w) Q else cf_wp T_M_judge (7, [l0, l1], st, w) Q) := cf_wi rfl
theorem r_M_judge_7 {l1 : Option cf_AV} {k : Nat} {st : List cf_AV} {w : cf_Wd} {Q : cf_Rs → Prop} : cf_wp T_M_judge (7, [some (.inr k), l1], st, w) Q ↔ cf_wp T_M_judge (8, [some (.inr k), l1], .inr k :: st, w) Q := cf_w1 rfl
theorem r_M_judge_8 {l0 l1 : Option cf_AV} {w : cf_Wd} {Q : cf_Rs → Prop} : cf_wp T_M_judge (8, [l0, l1], [.inr 5], w) Q ↔ ∃ x w1, F_M_pairsBlocks [.inr 5] w = some (some (.inl x), w1) ∧ cf_wp T_M_judge (11, [l0, l1], [.inl x], w1) Q := cf_wci (n := 1) (F := F_M_pairsBlocks) (nx := 11) rfl rfl cf_F_b
theorem c_M_judge_8 {l0 l1 : Option cf_AV} {x1 : Int32} {w1 : cf_Wd} {w : cf_Wd} {Q : cf_Rs → Prop} (hs : F_M_pairsBlocks [.inr 5] w = some (some (.inl x1), w1)) : cf_wp T_M_judge (8, [l0, l1], [.inr 5], w) Q ↔ cf_wp T_M_judge (11, [l0, l1], [.inl x1], w1) Q := r_M_judge_8.trans (cf_xi hs)
theorem r_M_judge_11 {l0 l1 : Option cf_AV} {x : Int32} {st : List cf_AV} {w : cf_Wd} {Q : cf_Rs → Prop} : cf_wp T_M_judge (11, [l0, l1], .inl x :: st, w) Q ↔ (if x = 0 then cf_wp T_M_judge (21, [l0, l1], st, w) Q else cf_wp T_M_judge (14, [l0, l1], st, w) Q) := cf_wi rfl
theorem r_M_judge_14 {l1 : Option cf_AV} {k : Nat} {st : List cf_AV} {w : cf_Wd} {Q : cf_Rs → Prop} : cf_wp T_M_judge (14, [some (.inr k), l1], st, w) Q ↔ cf_wp T_M_judge (15, [some (.inr k), l1], .inr k :: st, w) Q := cf_w1 rfl
theorem r_M_judge_15 {l0 l1 : Option cf_AV} {w : cf_Wd} {Q : cf_Rs → Prop} : cf_wp T_M_judge (15, [l0, l1], [.inr 5], w) Q ↔ ∃ x w1, F_M_setsBeforeReading [.inr 5] w = some (some (.inl x), w1) ∧ cf_wp T_M_judge (18, [l0, l1], [.inl x], w1) Q := cf_wci (n := 1) (F := F_M_setsBeforeReading) (nx := 18) rfl rfl cf_F_b
theorem c_M_judge_15 {l0 l1 : Option cf_AV} {x1 : Int32} {w1 : cf_Wd} {w : cf_Wd} {Q : cf_Rs → Prop} (hs : F_M_setsBeforeReading [.inr 5] w = some (some (.inl x1), w1)) : cf_wp T_M_judge (15, [l0, l1], [.inr 5], w) Q ↔ cf_wp T_M_judge (18, [l0, l1], [.inl x1], w1) Q := r_M_judge_15.trans (cf_xi hs)
theorem r_M_judge_18 {l0 l1 : Option cf_AV} {x : Int32} {st : List cf_AV} {w : cf_Wd} {Q : cf_Rs → Prop} : cf_wp T_M_judge (18, [l0, l1], .inl x :: st, w) Q ↔ (if ¬ x = 0 then cf_wp T_M_judge (23, [l0, l1], st, w) Q else cf_wp T_M_judge (21, [l0, l1], st, w) Q) := cf_wi rfl
theorem r_M_judge_21 {l0 l1 : Option cf_AV} {st : List cf_AV} {w : cf_Wd} {Q : cf_Rs → Prop} : cf_wp T_M_judge (21, [l0, l1], st, w) Q ↔ cf_wp T_M_judge (22, [l0, l1], .inl 3 :: st, w) Q := cf_w1 rfl
theorem r_M_judge_22 {l0 l1 : Option cf_AV} {x : Int32} {w : cf_Wd} {P : Int32 → cf_Wd → Prop} : cf_wp T_M_judge (22, [l0, l1], [.inl x], w) (cf_qi P) ↔ P x w := Iff.trans (cf_wr (q := (some (.inl x), w)) rfl) Iff.rfl
theorem r_M_judge_23 {l1 : Option cf_AV} {k : Nat} {st : List cf_AV} {w : cf_Wd} {Q : cf_Rs → Prop} : cf_wp T_M_judge (23, [some (.inr k), l1], st, w) Q ↔ cf_wp T_M_judge (24, [some (.inr k), l1], .inr k :: st, w) Q := cf_w1 rfl
theorem r_M_judge_24 {l0 : Option cf_AV} {x : Int32} {st : List cf_AV} {w : cf_Wd} {Q : cf_Rs → Prop} : cf_wp T_M_judge (24, [l0, some (.inl x)], st, w) Q ↔ cf_wp T_M_judge (25, [l0, some (.inl x)], .inl x :: st, w) Q := cf_w1 rfl
theorem r_M_judge_25 {l0 l1 : Option cf_AV} {a1 : Int32} {w : cf_Wd} {Q : cf_Rs → Prop} : cf_wp T_M_judge (25, [l0, l1], [.inl a1, .inr 5], w) Q ↔ ∃ x w1, F_M_runWith [.inr 5, .inl a1] w = some (some (.inl x), w1) ∧ cf_wp T_M_judge (28, [l0, l1], [.inl x], w1) Q := cf_wci (n := 2) (F := F_M_runWith) (nx := 28) rfl rfl cf_F_i
theorem c_M_judge_25 {l0 l1 : Option cf_AV} {a1 : Int32} {x1 : Int32} {w1 : cf_Wd} {w : cf_Wd} {Q : cf_Rs → Prop} (hs : F_M_runWith [.inr 5, .inl a1] w = some (some (.inl x1), w1)) : cf_wp T_M_judge (25, [l0, l1], [.inl a1, .inr 5], w) Q ↔ cf_wp T_M_judge (28, [l0, l1], [.inl x1], w1) Q := r_M_judge_25.trans (cf_xi hs)
theorem r_M_judge_28 {l0 l1 : Option cf_AV} {x : Int32} {w : cf_Wd} {P : Int32 → cf_Wd → Prop} : cf_wp T_M_judge (28, [l0, l1], [.inl x], w) (cf_qi P) ↔ P x w := Iff.trans (cf_wr (q := (some (.inl x), w)) rfl) Iff.rfl
theorem e_M_judge {a1 : Int32} {w : cf_Wd} {P : Int32 → cf_Wd → Prop} (h : cf_wp T_M_judge (0, [some (.inr 5), some (.inl a1)], [], w) (cf_qi P)) : ∃ x w1, F_M_judge [.inr 5, .inl a1] w = some (some (.inl x), w1) ∧ P x w1 := cf_ei rfl (Nat.le_of_ble_eq_true rfl) h
noncomputable def T_C_verdict (pc : Nat) : cf_Rw := bif Nat.ble pc 14 then
 (bif Nat.ble pc 5 then
  (bif Nat.ble pc 1 then
   (bif Nat.ble pc 0 then
    (bif Nat.beq pc 0 then cf_aload 0 1 else cf_stuck)
    else
    (bif Nat.beq pc 1 then cf_get 4 0 4 else cf_stuck))
   else
   (bif Nat.ble pc 4 then
    (bif Nat.beq pc 4 then cf_iload 1 5 else cf_stuck)
    else
    (bif Nat.beq pc 5 then cf_call 2 F_H_has 8 else cf_stuck)))
  else
  (bif Nat.ble pc 11 then
   (bif Nat.ble pc 8 then
    (bif Nat.beq pc 8 then cf_ifne 13 11 else cf_stuck)
    else
    (bif Nat.beq pc 11 then cf_const 0 12 else cf_stuck))
   else
   (bif Nat.ble pc 12 then
    (bif Nat.beq pc 12 then cf_iret else cf_stuck)
    else
    (bif Nat.ble pc 13 then
     (bif Nat.beq pc 13 then cf_aload 0 14 else cf_stuck)
     else
     (bif Nat.beq pc 14 then cf_get 4 1 17 else cf_stuck)))))
 else
 (bif Nat.ble pc 22 then
  (bif Nat.ble pc 18 then
   (bif Nat.ble pc 17 then
    (bif Nat.beq pc 17 then cf_aload 0 18 else cf_stuck)
    else
    (bif Nat.beq pc 18 then cf_get 4 0 21 else cf_stuck))
   else
   (bif Nat.ble pc 21 then
    (bif Nat.beq pc 21 then cf_iload 1 22 else cf_stuck)
    else
    (bif Nat.beq pc 22 then cf_call 3 F_M_load 25 else cf_stuck)))
  else
  (bif Nat.ble pc 26 then
   (bif Nat.ble pc 25 then
    (bif Nat.beq pc 25 then cf_aload 0 26 else cf_stuck)
    else
    (bif Nat.beq pc 26 then cf_get 4 1 29 else cf_stuck))
   else
   (bif Nat.ble pc 29 then
    (bif Nat.beq pc 29 then cf_iload 2 30 else cf_stuck)
    else
    (bif Nat.ble pc 30 then
     (bif Nat.beq pc 30 then cf_call 2 F_M_judge 33 else cf_stuck)
     else
     (bif Nat.beq pc 33 then cf_iret else cf_stuck)))))
noncomputable def F_C_verdict : List cf_AV → cf_Wd → Option cf_Rs := cf_F T_C_verdict 3 (some .int) (cf_shV 0 2)
theorem r_C_verdict_0 {l1 l2 : Option cf_AV} {k : Nat} {st : List cf_AV} {w : cf_Wd} {Q : cf_Rs → Prop} : cf_wp T_C_verdict (0, [some (.inr k), l1, l2], st, w) Q ↔ cf_wp T_C_verdict (1, [some (.inr k), l1, l2], .inr k :: st, w) Q := cf_w1 rfl
theorem r_C_verdict_1 {l0 l1 l2 : Option cf_AV} {st : List cf_AV} {w : cf_Wd} {Q : cf_Rs → Prop} : cf_wp T_C_verdict (1, [l0, l1, l2], .inr 0 :: st, w) Q ↔ cf_wp T_C_verdict (4, [l0, l1, l2], .inr 1 :: st, w) Q := cf_w1 rfl
theorem r_C_verdict_4 {l0 l2 : Option cf_AV} {x : Int32} {st : List cf_AV} {w : cf_Wd} {Q : cf_Rs → Prop} : cf_wp T_C_verdict (4, [l0, some (.inl x), l2], st, w) Q ↔ cf_wp T_C_verdict (5, [l0, some (.inl x), l2], .inl x :: st, w) Q := cf_w1 rfl
theorem r_C_verdict_5 {l0 l1 l2 : Option cf_AV} {a1 : Int32} {w : cf_Wd} {Q : cf_Rs → Prop} : cf_wp T_C_verdict (5, [l0, l1, l2], [.inl a1, .inr 1], w) Q ↔ ∃ x w1, F_H_has [.inr 1, .inl a1] w = some (some (.inl x), w1) ∧ cf_wp T_C_verdict (8, [l0, l1, l2], [.inl x], w1) Q := cf_wci (n := 2) (F := F_H_has) (nx := 8) rfl rfl cf_F_b
theorem c_C_verdict_5 {l0 l1 l2 : Option cf_AV} {a1 : Int32} {x1 : Int32} {w1 : cf_Wd} {w : cf_Wd} {Q : cf_Rs → Prop} (hs : F_H_has [.inr 1, .inl a1] w = some (some (.inl x1), w1)) : cf_wp T_C_verdict (5, [l0, l1, l2], [.inl a1, .inr 1], w) Q ↔ cf_wp T_C_verdict (8, [l0, l1, l2], [.inl x1], w1) Q := r_C_verdict_5.trans (cf_xi hs)
theorem r_C_verdict_8 {l0 l1 l2 : Option cf_AV} {x : Int32} {st : List cf_AV} {w : cf_Wd} {Q : cf_Rs → Prop} : cf_wp T_C_verdict (8, [l0, l1, l2], .inl x :: st, w) Q ↔ (if ¬ x = 0 then cf_wp T_C_verdict (13, [l0, l1, l2], st, w) Q else cf_wp T_C_verdict (11, [l0, l1, l2], st, w) Q) := cf_wi rfl
theorem r_C_verdict_11 {l0 l1 l2 : Option cf_AV} {st : List cf_AV} {w : cf_Wd} {Q : cf_Rs → Prop} : cf_wp T_C_verdict (11, [l0, l1, l2], st, w) Q ↔ cf_wp T_C_verdict (12, [l0, l1, l2], .inl 0 :: st, w) Q := cf_w1 rfl
theorem r_C_verdict_12 {l0 l1 l2 : Option cf_AV} {x : Int32} {w : cf_Wd} {P : Int32 → cf_Wd → Prop} : cf_wp T_C_verdict (12, [l0, l1, l2], [.inl x], w) (cf_qi P) ↔ P x w := Iff.trans (cf_wr (q := (some (.inl x), w)) rfl) Iff.rfl
theorem r_C_verdict_13 {l1 l2 : Option cf_AV} {k : Nat} {st : List cf_AV} {w : cf_Wd} {Q : cf_Rs → Prop} : cf_wp T_C_verdict (13, [some (.inr k), l1, l2], st, w) Q ↔ cf_wp T_C_verdict (14, [some (.inr k), l1, l2], .inr k :: st, w) Q := cf_w1 rfl
theorem r_C_verdict_14 {l0 l1 l2 : Option cf_AV} {st : List cf_AV} {w : cf_Wd} {Q : cf_Rs → Prop} : cf_wp T_C_verdict (14, [l0, l1, l2], .inr 0 :: st, w) Q ↔ cf_wp T_C_verdict (17, [l0, l1, l2], .inr 5 :: st, w) Q := cf_w1 rfl
theorem r_C_verdict_17 {l1 l2 : Option cf_AV} {k : Nat} {st : List cf_AV} {w : cf_Wd} {Q : cf_Rs → Prop} : cf_wp T_C_verdict (17, [some (.inr k), l1, l2], st, w) Q ↔ cf_wp T_C_verdict (18, [some (.inr k), l1, l2], .inr k :: st, w) Q := cf_w1 rfl
theorem r_C_verdict_18 {l0 l1 l2 : Option cf_AV} {st : List cf_AV} {w : cf_Wd} {Q : cf_Rs → Prop} : cf_wp T_C_verdict (18, [l0, l1, l2], .inr 0 :: st, w) Q ↔ cf_wp T_C_verdict (21, [l0, l1, l2], .inr 1 :: st, w) Q := cf_w1 rfl
theorem r_C_verdict_21 {l0 l2 : Option cf_AV} {x : Int32} {st : List cf_AV} {w : cf_Wd} {Q : cf_Rs → Prop} : cf_wp T_C_verdict (21, [l0, some (.inl x), l2], st, w) Q ↔ cf_wp T_C_verdict (22, [l0, some (.inl x), l2], .inl x :: st, w) Q := cf_w1 rfl
theorem r_C_verdict_22 {l0 l1 l2 : Option cf_AV} {a2 : Int32} {w : cf_Wd} {Q : cf_Rs → Prop} : cf_wp T_C_verdict (22, [l0, l1, l2], [.inl a2, .inr 1, .inr 5], w) Q ↔ ∃ w1, F_M_load [.inr 5, .inr 1, .inl a2] w = some (none, w1) ∧ cf_wp T_C_verdict (25, [l0, l1, l2], [], w1) Q := cf_wcv (n := 3) (F := F_M_load) (nx := 25) rfl rfl cf_F_v
theorem c_C_verdict_22 {l0 l1 l2 : Option cf_AV} {a2 : Int32} {w1 : cf_Wd} {w : cf_Wd} {Q : cf_Rs → Prop} (hs : F_M_load [.inr 5, .inr 1, .inl a2] w = some (none, w1)) : cf_wp T_C_verdict (22, [l0, l1, l2], [.inl a2, .inr 1, .inr 5], w) Q ↔ cf_wp T_C_verdict (25, [l0, l1, l2], [], w1) Q := r_C_verdict_22.trans (cf_xv hs)
theorem r_C_verdict_25 {l1 l2 : Option cf_AV} {k : Nat} {st : List cf_AV} {w : cf_Wd} {Q : cf_Rs → Prop} : cf_wp T_C_verdict (25, [some (.inr k), l1, l2], st, w) Q ↔ cf_wp T_C_verdict (26, [some (.inr k), l1, l2], .inr k :: st, w) Q := cf_w1 rfl
theorem r_C_verdict_26 {l0 l1 l2 : Option cf_AV} {st : List cf_AV} {w : cf_Wd} {Q : cf_Rs → Prop} : cf_wp T_C_verdict (26, [l0, l1, l2], .inr 0 :: st, w) Q ↔ cf_wp T_C_verdict (29, [l0, l1, l2], .inr 5 :: st, w) Q := cf_w1 rfl
theorem r_C_verdict_29 {l0 l1 : Option cf_AV} {x : Int32} {st : List cf_AV} {w : cf_Wd} {Q : cf_Rs → Prop} : cf_wp T_C_verdict (29, [l0, l1, some (.inl x)], st, w) Q ↔ cf_wp T_C_verdict (30, [l0, l1, some (.inl x)], .inl x :: st, w) Q := cf_w1 rfl
theorem r_C_verdict_30 {l0 l1 l2 : Option cf_AV} {a1 : Int32} {w : cf_Wd} {Q : cf_Rs → Prop} : cf_wp T_C_verdict (30, [l0, l1, l2], [.inl a1, .inr 5], w) Q ↔ ∃ x w1, F_M_judge [.inr 5, .inl a1] w = some (some (.inl x), w1) ∧ cf_wp T_C_verdict (33, [l0, l1, l2], [.inl x], w1) Q := cf_wci (n := 2) (F := F_M_judge) (nx := 33) rfl rfl cf_F_i
theorem c_C_verdict_30 {l0 l1 l2 : Option cf_AV} {a1 : Int32} {x1 : Int32} {w1 : cf_Wd} {w : cf_Wd} {Q : cf_Rs → Prop} (hs : F_M_judge [.inr 5, .inl a1] w = some (some (.inl x1), w1)) : cf_wp T_C_verdict (30, [l0, l1, l2], [.inl a1, .inr 5], w) Q ↔ cf_wp T_C_verdict (33, [l0, l1, l2], [.inl x1], w1) Q := r_C_verdict_30.trans (cf_xi hs)
theorem r_C_verdict_33 {l0 l1 l2 : Option cf_AV} {x : Int32} {w : cf_Wd} {P : Int32 → cf_Wd → Prop} : cf_wp T_C_verdict (33, [l0, l1, l2], [.inl x], w) (cf_qi P) ↔ P x w := Iff.trans (cf_wr (q := (some (.inl x), w)) rfl) Iff.rfl
theorem e_C_verdict {a1 a2 : Int32} {w : cf_Wd} {P : Int32 → cf_Wd → Prop} (h : cf_wp T_C_verdict (0, [some (.inr 0), some (.inl a1), some (.inl a2)], [], w) (cf_qi P)) : ∃ x w1, F_C_verdict [.inr 0, .inl a1, .inl a2] w = some (some (.inl x), w1) ∧ P x w1 := cf_ei rfl (Nat.le_of_ble_eq_true rfl) h
noncomputable def T_H_isOlderAncestor (pc : Nat) : cf_Rw := bif Nat.ble pc 21 then
 (bif Nat.ble pc 9 then
  (bif Nat.ble pc 2 then
   (bif Nat.ble pc 0 then
    (bif Nat.beq pc 0 then cf_aload 0 1 else cf_stuck)
    else
    (bif Nat.ble pc 1 then
     (bif Nat.beq pc 1 then cf_iload 1 2 else cf_stuck)
     else
     (bif Nat.beq pc 2 then cf_call 2 F_H_has 5 else cf_stuck)))
   else
   (bif Nat.ble pc 5 then
    (bif Nat.beq pc 5 then cf_ifeq 38 8 else cf_stuck)
    else
    (bif Nat.ble pc 8 then
     (bif Nat.beq pc 8 then cf_aload 0 9 else cf_stuck)
     else
     (bif Nat.beq pc 9 then cf_iload 2 10 else cf_stuck))))
  else
  (bif Nat.ble pc 16 then
   (bif Nat.ble pc 10 then
    (bif Nat.beq pc 10 then cf_call 2 F_H_has 13 else cf_stuck)
    else
    (bif Nat.ble pc 13 then
     (bif Nat.beq pc 13 then cf_ifeq 38 16 else cf_stuck)
     else
     (bif Nat.beq pc 16 then cf_iload 1 17 else cf_stuck)))
   else
   (bif Nat.ble pc 17 then
    (bif Nat.beq pc 17 then cf_iload 2 18 else cf_stuck)
    else
    (bif Nat.ble pc 18 then
     (bif Nat.beq pc 18 then cf_iceq 38 21 else cf_stuck)
     else
     (bif Nat.beq pc 21 then cf_aload 0 22 else cf_stuck)))))
 else
 (bif Nat.ble pc 29 then
  (bif Nat.ble pc 26 then
   (bif Nat.ble pc 22 then
    (bif Nat.beq pc 22 then cf_get 0 1 25 else cf_stuck)
    else
    (bif Nat.ble pc 25 then
     (bif Nat.beq pc 25 then cf_iload 2 26 else cf_stuck)
     else
     (bif Nat.beq pc 26 then cf_iald 27 else cf_stuck)))
   else
   (bif Nat.ble pc 27 then
    (bif Nat.beq pc 27 then cf_iload 1 28 else cf_stuck)
    else
    (bif Nat.ble pc 28 then
     (bif Nat.beq pc 28 then cf_bin (fun x y => x >>> (y &&& 31)) 29 else cf_stuck)
     else
     (bif Nat.beq pc 29 then cf_const 1 30 else cf_stuck))))
  else
  (bif Nat.ble pc 34 then
   (bif Nat.ble pc 30 then
    (bif Nat.beq pc 30 then cf_bin (fun x y => x &&& y) 31 else cf_stuck)
    else
    (bif Nat.ble pc 31 then
     (bif Nat.beq pc 31 then cf_ifeq 38 34 else cf_stuck)
     else
     (bif Nat.beq pc 34 then cf_const 1 35 else cf_stuck)))
   else
   (bif Nat.ble pc 35 then
    (bif Nat.beq pc 35 then cf_goto 39 else cf_stuck)
    else
    (bif Nat.ble pc 38 then
     (bif Nat.beq pc 38 then cf_const 0 39 else cf_stuck)
     else
     (bif Nat.beq pc 39 then cf_iret else cf_stuck)))))
noncomputable def F_H_isOlderAncestor : List cf_AV → cf_Wd → Option cf_Rs := cf_F T_H_isOlderAncestor 3 (some .boolean) (cf_shV 1 2)
theorem r_H_isOlderAncestor_0 {l1 l2 : Option cf_AV} {k : Nat} {st : List cf_AV} {w : cf_Wd} {Q : cf_Rs → Prop} : cf_wp T_H_isOlderAncestor (0, [some (.inr k), l1, l2], st, w) Q ↔ cf_wp T_H_isOlderAncestor (1, [some (.inr k), l1, l2], .inr k :: st, w) Q := cf_w1 rfl
theorem r_H_isOlderAncestor_1 {l0 l2 : Option cf_AV} {x : Int32} {st : List cf_AV} {w : cf_Wd} {Q : cf_Rs → Prop} : cf_wp T_H_isOlderAncestor (1, [l0, some (.inl x), l2], st, w) Q ↔ cf_wp T_H_isOlderAncestor (2, [l0, some (.inl x), l2], .inl x :: st, w) Q := cf_w1 rfl
theorem r_H_isOlderAncestor_2 {l0 l1 l2 : Option cf_AV} {a1 : Int32} {w : cf_Wd} {Q : cf_Rs → Prop} : cf_wp T_H_isOlderAncestor (2, [l0, l1, l2], [.inl a1, .inr 1], w) Q ↔ ∃ x w1, F_H_has [.inr 1, .inl a1] w = some (some (.inl x), w1) ∧ cf_wp T_H_isOlderAncestor (5, [l0, l1, l2], [.inl x], w1) Q := cf_wci (n := 2) (F := F_H_has) (nx := 5) rfl rfl cf_F_b
theorem c_H_isOlderAncestor_2 {l0 l1 l2 : Option cf_AV} {a1 : Int32} {x1 : Int32} {w1 : cf_Wd} {w : cf_Wd} {Q : cf_Rs → Prop} (hs : F_H_has [.inr 1, .inl a1] w = some (some (.inl x1), w1)) : cf_wp T_H_isOlderAncestor (2, [l0, l1, l2], [.inl a1, .inr 1], w) Q ↔ cf_wp T_H_isOlderAncestor (5, [l0, l1, l2], [.inl x1], w1) Q := r_H_isOlderAncestor_2.trans (cf_xi hs)
theorem r_H_isOlderAncestor_5 {l0 l1 l2 : Option cf_AV} {x : Int32} {st : List cf_AV} {w : cf_Wd} {Q : cf_Rs → Prop} : cf_wp T_H_isOlderAncestor (5, [l0, l1, l2], .inl x :: st, w) Q ↔ (if x = 0 then cf_wp T_H_isOlderAncestor (38, [l0, l1, l2], st, w) Q else cf_wp T_H_isOlderAncestor (8, [l0, l1, l2], st, w) Q) := cf_wi rfl
theorem r_H_isOlderAncestor_8 {l1 l2 : Option cf_AV} {k : Nat} {st : List cf_AV} {w : cf_Wd} {Q : cf_Rs → Prop} : cf_wp T_H_isOlderAncestor (8, [some (.inr k), l1, l2], st, w) Q ↔ cf_wp T_H_isOlderAncestor (9, [some (.inr k), l1, l2], .inr k :: st, w) Q := cf_w1 rfl
theorem r_H_isOlderAncestor_9 {l0 l1 : Option cf_AV} {x : Int32} {st : List cf_AV} {w : cf_Wd} {Q : cf_Rs → Prop} : cf_wp T_H_isOlderAncestor (9, [l0, l1, some (.inl x)], st, w) Q ↔ cf_wp T_H_isOlderAncestor (10, [l0, l1, some (.inl x)], .inl x :: st, w) Q := cf_w1 rfl
theorem r_H_isOlderAncestor_10 {l0 l1 l2 : Option cf_AV} {a1 : Int32} {w : cf_Wd} {Q : cf_Rs → Prop} : cf_wp T_H_isOlderAncestor (10, [l0, l1, l2], [.inl a1, .inr 1], w) Q ↔ ∃ x w1, F_H_has [.inr 1, .inl a1] w = some (some (.inl x), w1) ∧ cf_wp T_H_isOlderAncestor (13, [l0, l1, l2], [.inl x], w1) Q := cf_wci (n := 2) (F := F_H_has) (nx := 13) rfl rfl cf_F_b
theorem c_H_isOlderAncestor_10 {l0 l1 l2 : Option cf_AV} {a1 : Int32} {x1 : Int32} {w1 : cf_Wd} {w : cf_Wd} {Q : cf_Rs → Prop} (hs : F_H_has [.inr 1, .inl a1] w = some (some (.inl x1), w1)) : cf_wp T_H_isOlderAncestor (10, [l0, l1, l2], [.inl a1, .inr 1], w) Q ↔ cf_wp T_H_isOlderAncestor (13, [l0, l1, l2], [.inl x1], w1) Q := r_H_isOlderAncestor_10.trans (cf_xi hs)
theorem r_H_isOlderAncestor_13 {l0 l1 l2 : Option cf_AV} {x : Int32} {st : List cf_AV} {w : cf_Wd} {Q : cf_Rs → Prop} : cf_wp T_H_isOlderAncestor (13, [l0, l1, l2], .inl x :: st, w) Q ↔ (if x = 0 then cf_wp T_H_isOlderAncestor (38, [l0, l1, l2], st, w) Q else cf_wp T_H_isOlderAncestor (16, [l0, l1, l2], st, w) Q) := cf_wi rfl
theorem r_H_isOlderAncestor_16 {l0 l2 : Option cf_AV} {x : Int32} {st : List cf_AV} {w : cf_Wd} {Q : cf_Rs → Prop} : cf_wp T_H_isOlderAncestor (16, [l0, some (.inl x), l2], st, w) Q ↔ cf_wp T_H_isOlderAncestor (17, [l0, some (.inl x), l2], .inl x :: st, w) Q := cf_w1 rfl
theorem r_H_isOlderAncestor_17 {l0 l1 : Option cf_AV} {x : Int32} {st : List cf_AV} {w : cf_Wd} {Q : cf_Rs → Prop} : cf_wp T_H_isOlderAncestor (17, [l0, l1, some (.inl x)], st, w) Q ↔ cf_wp T_H_isOlderAncestor (18, [l0, l1, some (.inl x)], .inl x :: st, w) Q := cf_w1 rfl
theorem r_H_isOlderAncestor_18 {l0 l1 l2 : Option cf_AV} {x y : Int32} {st : List cf_AV} {w : cf_Wd} {Q : cf_Rs → Prop} : cf_wp T_H_isOlderAncestor (18, [l0, l1, l2], .inl y :: .inl x :: st, w) Q ↔ (if x = y then cf_wp T_H_isOlderAncestor (38, [l0, l1, l2], st, w) Q else cf_wp T_H_isOlderAncestor (21, [l0, l1, l2], st, w) Q) := cf_wi rfl
theorem r_H_isOlderAncestor_21 {l1 l2 : Option cf_AV} {k : Nat} {st : List cf_AV} {w : cf_Wd} {Q : cf_Rs → Prop} : cf_wp T_H_isOlderAncestor (21, [some (.inr k), l1, l2], st, w) Q ↔ cf_wp T_H_isOlderAncestor (22, [some (.inr k), l1, l2], .inr k :: st, w) Q := cf_w1 rfl
theorem r_H_isOlderAncestor_22 {l0 l1 l2 : Option cf_AV} {st : List cf_AV} {w : cf_Wd} {Q : cf_Rs → Prop} : cf_wp T_H_isOlderAncestor (22, [l0, l1, l2], .inr 1 :: st, w) Q ↔ cf_wp T_H_isOlderAncestor (25, [l0, l1, l2], .inr 3 :: st, w) Q := cf_w1 rfl
theorem r_H_isOlderAncestor_25 {l0 l1 : Option cf_AV} {x : Int32} {st : List cf_AV} {w : cf_Wd} {Q : cf_Rs → Prop} : cf_wp T_H_isOlderAncestor (25, [l0, l1, some (.inl x)], st, w) Q ↔ cf_wp T_H_isOlderAncestor (26, [l0, l1, some (.inl x)], .inl x :: st, w) Q := cf_w1 rfl
theorem r_H_isOlderAncestor_26 {l0 l1 l2 : Option cf_AV} {i : Int32} {st : List cf_AV} {w : cf_Wd} {Q : cf_Rs → Prop} : cf_wp T_H_isOlderAncestor (26, [l0, l1, l2], .inl i :: .inr 3 :: st, w) Q ↔ (cf_in i 14 = true ∧ cf_wp T_H_isOlderAncestor (27, [l0, l1, l2], .inl (w 3 i.toNatClampNeg) :: st, w) Q) := cf_wg rfl
theorem r_H_isOlderAncestor_27 {l0 l2 : Option cf_AV} {x : Int32} {st : List cf_AV} {w : cf_Wd} {Q : cf_Rs → Prop} : cf_wp T_H_isOlderAncestor (27, [l0, some (.inl x), l2], st, w) Q ↔ cf_wp T_H_isOlderAncestor (28, [l0, some (.inl x), l2], .inl x :: st, w) Q := cf_w1 rfl
theorem r_H_isOlderAncestor_28 {l0 l1 l2 : Option cf_AV} {x y : Int32} {st : List cf_AV} {w : cf_Wd} {Q : cf_Rs → Prop} : cf_wp T_H_isOlderAncestor (28, [l0, l1, l2], .inl y :: .inl x :: st, w) Q ↔ cf_wp T_H_isOlderAncestor (29, [l0, l1, l2], .inl (x >>> (y &&& 31)) :: st, w) Q := cf_w1 rfl
theorem r_H_isOlderAncestor_29 {l0 l1 l2 : Option cf_AV} {st : List cf_AV} {w : cf_Wd} {Q : cf_Rs → Prop} : cf_wp T_H_isOlderAncestor (29, [l0, l1, l2], st, w) Q ↔ cf_wp T_H_isOlderAncestor (30, [l0, l1, l2], .inl 1 :: st, w) Q := cf_w1 rfl
theorem r_H_isOlderAncestor_30 {l0 l1 l2 : Option cf_AV} {x y : Int32} {st : List cf_AV} {w : cf_Wd} {Q : cf_Rs → Prop} : cf_wp T_H_isOlderAncestor (30, [l0, l1, l2], .inl y :: .inl x :: st, w) Q ↔ cf_wp T_H_isOlderAncestor (31, [l0, l1, l2], .inl (x &&& y) :: st, w) Q := cf_w1 rfl
theorem r_H_isOlderAncestor_31 {l0 l1 l2 : Option cf_AV} {x : Int32} {st : List cf_AV} {w : cf_Wd} {Q : cf_Rs → Prop} : cf_wp T_H_isOlderAncestor (31, [l0, l1, l2], .inl x :: st, w) Q ↔ (if x = 0 then cf_wp T_H_isOlderAncestor (38, [l0, l1, l2], st, w) Q else cf_wp T_H_isOlderAncestor (34, [l0, l1, l2], st, w) Q) := cf_wi rfl
theorem r_H_isOlderAncestor_34 {l0 l1 l2 : Option cf_AV} {st : List cf_AV} {w : cf_Wd} {Q : cf_Rs → Prop} : cf_wp T_H_isOlderAncestor (34, [l0, l1, l2], st, w) Q ↔ cf_wp T_H_isOlderAncestor (35, [l0, l1, l2], .inl 1 :: st, w) Q := cf_w1 rfl
theorem r_H_isOlderAncestor_35 {l0 l1 l2 : Option cf_AV} {st : List cf_AV} {w : cf_Wd} {Q : cf_Rs → Prop} : cf_wp T_H_isOlderAncestor (35, [l0, l1, l2], st, w) Q ↔ cf_wp T_H_isOlderAncestor (39, [l0, l1, l2], st, w) Q := cf_w1 rfl
theorem r_H_isOlderAncestor_38 {l0 l1 l2 : Option cf_AV} {st : List cf_AV} {w : cf_Wd} {Q : cf_Rs → Prop} : cf_wp T_H_isOlderAncestor (38, [l0, l1, l2], st, w) Q ↔ cf_wp T_H_isOlderAncestor (39, [l0, l1, l2], .inl 0 :: st, w) Q := cf_w1 rfl
theorem r_H_isOlderAncestor_39 {l0 l1 l2 : Option cf_AV} {x : Int32} {w : cf_Wd} {P : Int32 → cf_Wd → Prop} : cf_wp T_H_isOlderAncestor (39, [l0, l1, l2], [.inl x], w) (cf_qb P) ↔ ((x = 0 ∨ x = 1) ∧ P x w) := Iff.trans (cf_wr (q := (some (.inl x), w)) rfl) Iff.rfl
theorem e_H_isOlderAncestor {a1 a2 : Int32} {w : cf_Wd} {P : Int32 → cf_Wd → Prop} (h : cf_wp T_H_isOlderAncestor (0, [some (.inr 1), some (.inl a1), some (.inl a2)], [], w) (cf_qb P)) : ∃ x w1, F_H_isOlderAncestor [.inr 1, .inl a1, .inl a2] w = some (some (.inl x), w1) ∧ P x w1 := cf_eb rfl (Nat.le_of_ble_eq_true rfl) h
noncomputable def T_R_reset (pc : Nat) : cf_Rw := bif Nat.ble pc 5 then
 (bif Nat.ble pc 1 then
  (bif Nat.ble pc 0 then
   (bif Nat.beq pc 0 then cf_aload 0 1 else cf_stuck)
   else
   (bif Nat.beq pc 1 then cf_get 2 0 4 else cf_stuck))
  else
  (bif Nat.ble pc 4 then
   (bif Nat.beq pc 4 then cf_const 0 5 else cf_stuck)
   else
   (bif Nat.beq pc 5 then cf_call 2 F_J_fill 8 else cf_stuck)))
 else
 (bif Nat.ble pc 9 then
  (bif Nat.ble pc 8 then
   (bif Nat.beq pc 8 then cf_aload 0 9 else cf_stuck)
   else
   (bif Nat.beq pc 9 then cf_const (-1) 10 else cf_stuck))
  else
  (bif Nat.ble pc 10 then
   (bif Nat.beq pc 10 then cf_put 2 1 13 else cf_stuck)
   else
   (bif Nat.beq pc 13 then cf_vret else cf_stuck)))
noncomputable def F_R_reset : List cf_AV → cf_Wd → Option cf_Rs := cf_F T_R_reset 1 none (cf_shV 11 0)
theorem r_R_reset_0 {k : Nat} {st : List cf_AV} {w : cf_Wd} {Q : cf_Rs → Prop} : cf_wp T_R_reset (0, [some (.inr k)], st, w) Q ↔ cf_wp T_R_reset (1, [some (.inr k)], .inr k :: st, w) Q := cf_w1 rfl
theorem r_R_reset_1 {l0 : Option cf_AV} {st : List cf_AV} {w : cf_Wd} {Q : cf_Rs → Prop} : cf_wp T_R_reset (1, [l0], .inr 11 :: st, w) Q ↔ cf_wp T_R_reset (4, [l0], .inr 12 :: st, w) Q := cf_w1 rfl
theorem r_R_reset_4 {l0 : Option cf_AV} {st : List cf_AV} {w : cf_Wd} {Q : cf_Rs → Prop} : cf_wp T_R_reset (4, [l0], st, w) Q ↔ cf_wp T_R_reset (5, [l0], .inl 0 :: st, w) Q := cf_w1 rfl
theorem r_R_reset_5 {l0 : Option cf_AV} {a1 : Int32} {w : cf_Wd} {Q : cf_Rs → Prop} : cf_wp T_R_reset (5, [l0], [.inl a1, .inr 12], w) Q ↔ ∃ w1, F_J_fill [.inr 12, .inl a1] w = some (none, w1) ∧ cf_wp T_R_reset (8, [l0], [], w1) Q := cf_wcv (n := 2) (F := F_J_fill) (nx := 8) rfl rfl cf_F_v
theorem c_R_reset_5 {l0 : Option cf_AV} {a1 : Int32} {w1 : cf_Wd} {w : cf_Wd} {Q : cf_Rs → Prop} (hs : F_J_fill [.inr 12, .inl a1] w = some (none, w1)) : cf_wp T_R_reset (5, [l0], [.inl a1, .inr 12], w) Q ↔ cf_wp T_R_reset (8, [l0], [], w1) Q := r_R_reset_5.trans (cf_xv hs)
theorem r_R_reset_8 {k : Nat} {st : List cf_AV} {w : cf_Wd} {Q : cf_Rs → Prop} : cf_wp T_R_reset (8, [some (.inr k)], st, w) Q ↔ cf_wp T_R_reset (9, [some (.inr k)], .inr k :: st, w) Q := cf_w1 rfl
theorem r_R_reset_9 {l0 : Option cf_AV} {st : List cf_AV} {w : cf_Wd} {Q : cf_Rs → Prop} : cf_wp T_R_reset (9, [l0], st, w) Q ↔ cf_wp T_R_reset (10, [l0], .inl (-1) :: st, w) Q := cf_w1 rfl
theorem r_R_reset_10 {l0 : Option cf_AV} {x : Int32} {st : List cf_AV} {w : cf_Wd} {Q : cf_Rs → Prop} : cf_wp T_R_reset (10, [l0], .inl x :: .inr 11 :: st, w) Q ↔ cf_wp T_R_reset (13, [l0], st, (cf_wa w 11 (upd (w 11) 1 x))) Q := cf_w1 rfl
theorem r_R_reset_13 {l0 : Option cf_AV} {w : cf_Wd} {P : cf_Wd → Prop} : cf_wp T_R_reset (13, [l0], [], w) (cf_qv P) ↔ P w := Iff.trans (cf_wr (q := (none, w)) rfl) Iff.rfl
theorem e_R_reset {w : cf_Wd} {P : cf_Wd → Prop} (h : cf_wp T_R_reset (0, [some (.inr 11)], [], w) (cf_qv P)) : ∃ w1, F_R_reset [.inr 11] w = some (none, w1) ∧ P w1 := cf_ev rfl (Nat.le_of_ble_eq_true rfl) h
noncomputable def T_S_loseTest (pc : Nat) : cf_Rw := bif Nat.ble pc 1 then
 (bif Nat.ble pc 0 then
  (bif Nat.beq pc 0 then cf_aload 0 1 else cf_stuck)
  else
  (bif Nat.beq pc 1 then cf_const 0 2 else cf_stuck))
 else
 (bif Nat.ble pc 2 then
  (bif Nat.beq pc 2 then cf_putz 3 15 5 else cf_stuck)
  else
  (bif Nat.beq pc 5 then cf_vret else cf_stuck))
noncomputable def F_S_loseTest : List cf_AV → cf_Wd → Option cf_Rs := cf_F T_S_loseTest 1 none (cf_shV 10 0)
theorem r_S_loseTest_0 {k : Nat} {st : List cf_AV} {w : cf_Wd} {Q : cf_Rs → Prop} : cf_wp T_S_loseTest (0, [some (.inr k)], st, w) Q ↔ cf_wp T_S_loseTest (1, [some (.inr k)], .inr k :: st, w) Q := cf_w1 rfl
theorem r_S_loseTest_1 {l0 : Option cf_AV} {st : List cf_AV} {w : cf_Wd} {Q : cf_Rs → Prop} : cf_wp T_S_loseTest (1, [l0], st, w) Q ↔ cf_wp T_S_loseTest (2, [l0], .inl 0 :: st, w) Q := cf_w1 rfl
theorem r_S_loseTest_2 {l0 : Option cf_AV} {x : Int32} {st : List cf_AV} {w : cf_Wd} {Q : cf_Rs → Prop} : cf_wp T_S_loseTest (2, [l0], .inl x :: .inr 10 :: st, w) Q ↔ ((x == 0 || x == 1) = true ∧ cf_wp T_S_loseTest (5, [l0], st, (cf_wa w 10 (upd (w 10) 15 x))) Q) := cf_wg rfl
theorem r_S_loseTest_5 {l0 : Option cf_AV} {w : cf_Wd} {P : cf_Wd → Prop} : cf_wp T_S_loseTest (5, [l0], [], w) (cf_qv P) ↔ P w := Iff.trans (cf_wr (q := (none, w)) rfl) Iff.rfl
theorem e_S_loseTest {w : cf_Wd} {P : cf_Wd → Prop} (h : cf_wp T_S_loseTest (0, [some (.inr 10)], [], w) (cf_qv P)) : ∃ w1, F_S_loseTest [.inr 10] w = some (none, w1) ∧ P w1 := cf_ev rfl (Nat.le_of_ble_eq_true rfl) h
noncomputable def T_S_close (pc : Nat) : cf_Rw := bif Nat.ble pc 25 then
 (bif Nat.ble pc 12 then
  (bif Nat.ble pc 4 then
   (bif Nat.ble pc 0 then
    (bif Nat.beq pc 0 then cf_aload 0 1 else cf_stuck)
    else
    (bif Nat.ble pc 1 then
     (bif Nat.beq pc 1 then cf_get 3 4 4 else cf_stuck)
     else
     (bif Nat.beq pc 4 then cf_const 0 5 else cf_stuck)))
   else
   (bif Nat.ble pc 8 then
    (bif Nat.ble pc 5 then
     (bif Nat.beq pc 5 then cf_call 2 F_J_fill 8 else cf_stuck)
     else
     (bif Nat.beq pc 8 then cf_aload 0 9 else cf_stuck))
    else
    (bif Nat.ble pc 9 then
     (bif Nat.beq pc 9 then cf_get 3 2 12 else cf_stuck)
     else
     (bif Nat.beq pc 12 then cf_call 1 F_R_reset 15 else cf_stuck))))
  else
  (bif Nat.ble pc 17 then
   (bif Nat.ble pc 15 then
    (bif Nat.beq pc 15 then cf_aload 0 16 else cf_stuck)
    else
    (bif Nat.ble pc 16 then
     (bif Nat.beq pc 16 then cf_const 0 17 else cf_stuck)
     else
     (bif Nat.beq pc 17 then cf_put 3 5 20 else cf_stuck)))
   else
   (bif Nat.ble pc 21 then
    (bif Nat.ble pc 20 then
     (bif Nat.beq pc 20 then cf_aload 0 21 else cf_stuck)
     else
     (bif Nat.beq pc 21 then cf_const 0 22 else cf_stuck))
    else
    (bif Nat.ble pc 22 then
     (bif Nat.beq pc 22 then cf_put 3 6 25 else cf_stuck)
     else
     (bif Nat.beq pc 25 then cf_aload 0 26 else cf_stuck)))))
 else
 (bif Nat.ble pc 36 then
  (bif Nat.ble pc 30 then
   (bif Nat.ble pc 26 then
    (bif Nat.beq pc 26 then cf_const 0 27 else cf_stuck)
    else
    (bif Nat.ble pc 27 then
     (bif Nat.beq pc 27 then cf_put 3 11 30 else cf_stuck)
     else
     (bif Nat.beq pc 30 then cf_aload 0 31 else cf_stuck)))
   else
   (bif Nat.ble pc 32 then
    (bif Nat.ble pc 31 then
     (bif Nat.beq pc 31 then cf_const 0 32 else cf_stuck)
     else
     (bif Nat.beq pc 32 then cf_put 3 12 35 else cf_stuck))
    else
    (bif Nat.ble pc 35 then
     (bif Nat.beq pc 35 then cf_aload 0 36 else cf_stuck)
     else
     (bif Nat.beq pc 36 then cf_const (-1) 37 else cf_stuck))))
  else
  (bif Nat.ble pc 41 then
   (bif Nat.ble pc 37 then
    (bif Nat.beq pc 37 then cf_put 3 13 40 else cf_stuck)
    else
    (bif Nat.ble pc 40 then
     (bif Nat.beq pc 40 then cf_aload 0 41 else cf_stuck)
     else
     (bif Nat.beq pc 41 then cf_const (-1) 42 else cf_stuck)))
   else
   (bif Nat.ble pc 45 then
    (bif Nat.ble pc 42 then
     (bif Nat.beq pc 42 then cf_put 3 14 45 else cf_stuck)
     else
     (bif Nat.beq pc 45 then cf_aload 0 46 else cf_stuck))
    else
    (bif Nat.ble pc 46 then
     (bif Nat.beq pc 46 then cf_call 1 F_S_loseTest 49 else cf_stuck)
     else
     (bif Nat.beq pc 49 then cf_vret else cf_stuck)))))
noncomputable def F_S_close : List cf_AV → cf_Wd → Option cf_Rs := cf_F T_S_close 1 none (cf_shV 10 0)
theorem r_S_close_0 {k : Nat} {st : List cf_AV} {w : cf_Wd} {Q : cf_Rs → Prop} : cf_wp T_S_close (0, [some (.inr k)], st, w) Q ↔ cf_wp T_S_close (1, [some (.inr k)], .inr k :: st, w) Q := cf_w1 rfl
theorem r_S_close_1 {l0 : Option cf_AV} {st : List cf_AV} {w : cf_Wd} {Q : cf_Rs → Prop} : cf_wp T_S_close (1, [l0], .inr 10 :: st, w) Q ↔ cf_wp T_S_close (4, [l0], .inr 14 :: st, w) Q := cf_w1 rfl
theorem r_S_close_4 {l0 : Option cf_AV} {st : List cf_AV} {w : cf_Wd} {Q : cf_Rs → Prop} : cf_wp T_S_close (4, [l0], st, w) Q ↔ cf_wp T_S_close (5, [l0], .inl 0 :: st, w) Q := cf_w1 rfl
theorem r_S_close_5 {l0 : Option cf_AV} {a1 : Int32} {w : cf_Wd} {Q : cf_Rs → Prop} : cf_wp T_S_close (5, [l0], [.inl a1, .inr 14], w) Q ↔ ∃ w1, F_J_fill [.inr 14, .inl a1] w = some (none, w1) ∧ cf_wp T_S_close (8, [l0], [], w1) Q := cf_wcv (n := 2) (F := F_J_fill) (nx := 8) rfl rfl cf_F_v
theorem c_S_close_5 {l0 : Option cf_AV} {a1 : Int32} {w1 : cf_Wd} {w : cf_Wd} {Q : cf_Rs → Prop} (hs : F_J_fill [.inr 14, .inl a1] w = some (none, w1)) : cf_wp T_S_close (5, [l0], [.inl a1, .inr 14], w) Q ↔ cf_wp T_S_close (8, [l0], [], w1) Q := r_S_close_5.trans (cf_xv hs)
theorem r_S_close_8 {k : Nat} {st : List cf_AV} {w : cf_Wd} {Q : cf_Rs → Prop} : cf_wp T_S_close (8, [some (.inr k)], st, w) Q ↔ cf_wp T_S_close (9, [some (.inr k)], .inr k :: st, w) Q := cf_w1 rfl
theorem r_S_close_9 {l0 : Option cf_AV} {st : List cf_AV} {w : cf_Wd} {Q : cf_Rs → Prop} : cf_wp T_S_close (9, [l0], .inr 10 :: st, w) Q ↔ cf_wp T_S_close (12, [l0], .inr 11 :: st, w) Q := cf_w1 rfl
theorem r_S_close_12 {l0 : Option cf_AV} {w : cf_Wd} {Q : cf_Rs → Prop} : cf_wp T_S_close (12, [l0], [.inr 11], w) Q ↔ ∃ w1, F_R_reset [.inr 11] w = some (none, w1) ∧ cf_wp T_S_close (15, [l0], [], w1) Q := cf_wcv (n := 1) (F := F_R_reset) (nx := 15) rfl rfl cf_F_v
theorem c_S_close_12 {l0 : Option cf_AV} {w1 : cf_Wd} {w : cf_Wd} {Q : cf_Rs → Prop} (hs : F_R_reset [.inr 11] w = some (none, w1)) : cf_wp T_S_close (12, [l0], [.inr 11], w) Q ↔ cf_wp T_S_close (15, [l0], [], w1) Q := r_S_close_12.trans (cf_xv hs)
theorem r_S_close_15 {k : Nat} {st : List cf_AV} {w : cf_Wd} {Q : cf_Rs → Prop} : cf_wp T_S_close (15, [some (.inr k)], st, w) Q ↔ cf_wp T_S_close (16, [some (.inr k)], .inr k :: st, w) Q := cf_w1 rfl
theorem r_S_close_16 {l0 : Option cf_AV} {st : List cf_AV} {w : cf_Wd} {Q : cf_Rs → Prop} : cf_wp T_S_close (16, [l0], st, w) Q ↔ cf_wp T_S_close (17, [l0], .inl 0 :: st, w) Q := cf_w1 rfl
theorem r_S_close_17 {l0 : Option cf_AV} {x : Int32} {st : List cf_AV} {w : cf_Wd} {Q : cf_Rs → Prop} : cf_wp T_S_close (17, [l0], .inl x :: .inr 10 :: st, w) Q ↔ cf_wp T_S_close (20, [l0], st, (cf_wa w 10 (upd (w 10) 5 x))) Q := cf_w1 rfl
theorem r_S_close_20 {k : Nat} {st : List cf_AV} {w : cf_Wd} {Q : cf_Rs → Prop} : cf_wp T_S_close (20, [some (.inr k)], st, w) Q ↔ cf_wp T_S_close (21, [some (.inr k)], .inr k :: st, w) Q := cf_w1 rfl
theorem r_S_close_21 {l0 : Option cf_AV} {st : List cf_AV} {w : cf_Wd} {Q : cf_Rs → Prop} : cf_wp T_S_close (21, [l0], st, w) Q ↔ cf_wp T_S_close (22, [l0], .inl 0 :: st, w) Q := cf_w1 rfl
theorem r_S_close_22 {l0 : Option cf_AV} {x : Int32} {st : List cf_AV} {w : cf_Wd} {Q : cf_Rs → Prop} : cf_wp T_S_close (22, [l0], .inl x :: .inr 10 :: st, w) Q ↔ cf_wp T_S_close (25, [l0], st, (cf_wa w 10 (upd (w 10) 6 x))) Q := cf_w1 rfl
theorem r_S_close_25 {k : Nat} {st : List cf_AV} {w : cf_Wd} {Q : cf_Rs → Prop} : cf_wp T_S_close (25, [some (.inr k)], st, w) Q ↔ cf_wp T_S_close (26, [some (.inr k)], .inr k :: st, w) Q := cf_w1 rfl
theorem r_S_close_26 {l0 : Option cf_AV} {st : List cf_AV} {w : cf_Wd} {Q : cf_Rs → Prop} : cf_wp T_S_close (26, [l0], st, w) Q ↔ cf_wp T_S_close (27, [l0], .inl 0 :: st, w) Q := cf_w1 rfl
theorem r_S_close_27 {l0 : Option cf_AV} {x : Int32} {st : List cf_AV} {w : cf_Wd} {Q : cf_Rs → Prop} : cf_wp T_S_close (27, [l0], .inl x :: .inr 10 :: st, w) Q ↔ cf_wp T_S_close (30, [l0], st, (cf_wa w 10 (upd (w 10) 11 x))) Q := cf_w1 rfl
theorem r_S_close_30 {k : Nat} {st : List cf_AV} {w : cf_Wd} {Q : cf_Rs → Prop} : cf_wp T_S_close (30, [some (.inr k)], st, w) Q ↔ cf_wp T_S_close (31, [some (.inr k)], .inr k :: st, w) Q := cf_w1 rfl
theorem r_S_close_31 {l0 : Option cf_AV} {st : List cf_AV} {w : cf_Wd} {Q : cf_Rs → Prop} : cf_wp T_S_close (31, [l0], st, w) Q ↔ cf_wp T_S_close (32, [l0], .inl 0 :: st, w) Q := cf_w1 rfl
theorem r_S_close_32 {l0 : Option cf_AV} {x : Int32} {st : List cf_AV} {w : cf_Wd} {Q : cf_Rs → Prop} : cf_wp T_S_close (32, [l0], .inl x :: .inr 10 :: st, w) Q ↔ cf_wp T_S_close (35, [l0], st, (cf_wa w 10 (upd (w 10) 12 x))) Q := cf_w1 rfl
theorem r_S_close_35 {k : Nat} {st : List cf_AV} {w : cf_Wd} {Q : cf_Rs → Prop} : cf_wp T_S_close (35, [some (.inr k)], st, w) Q ↔ cf_wp T_S_close (36, [some (.inr k)], .inr k :: st, w) Q := cf_w1 rfl
theorem r_S_close_36 {l0 : Option cf_AV} {st : List cf_AV} {w : cf_Wd} {Q : cf_Rs → Prop} : cf_wp T_S_close (36, [l0], st, w) Q ↔ cf_wp T_S_close (37, [l0], .inl (-1) :: st, w) Q := cf_w1 rfl
theorem r_S_close_37 {l0 : Option cf_AV} {x : Int32} {st : List cf_AV} {w : cf_Wd} {Q : cf_Rs → Prop} : cf_wp T_S_close (37, [l0], .inl x :: .inr 10 :: st, w) Q ↔ cf_wp T_S_close (40, [l0], st, (cf_wa w 10 (upd (w 10) 13 x))) Q := cf_w1 rfl
theorem r_S_close_40 {k : Nat} {st : List cf_AV} {w : cf_Wd} {Q : cf_Rs → Prop} : cf_wp T_S_close (40, [some (.inr k)], st, w) Q ↔ cf_wp T_S_close (41, [some (.inr k)], .inr k :: st, w) Q := cf_w1 rfl
theorem r_S_close_41 {l0 : Option cf_AV} {st : List cf_AV} {w : cf_Wd} {Q : cf_Rs → Prop} : cf_wp T_S_close (41, [l0], st, w) Q ↔ cf_wp T_S_close (42, [l0], .inl (-1) :: st, w) Q := cf_w1 rfl
theorem r_S_close_42 {l0 : Option cf_AV} {x : Int32} {st : List cf_AV} {w : cf_Wd} {Q : cf_Rs → Prop} : cf_wp T_S_close (42, [l0], .inl x :: .inr 10 :: st, w) Q ↔ cf_wp T_S_close (45, [l0], st, (cf_wa w 10 (upd (w 10) 14 x))) Q := cf_w1 rfl
theorem r_S_close_45 {k : Nat} {st : List cf_AV} {w : cf_Wd} {Q : cf_Rs → Prop} : cf_wp T_S_close (45, [some (.inr k)], st, w) Q ↔ cf_wp T_S_close (46, [some (.inr k)], .inr k :: st, w) Q := cf_w1 rfl
theorem r_S_close_46 {l0 : Option cf_AV} {w : cf_Wd} {Q : cf_Rs → Prop} : cf_wp T_S_close (46, [l0], [.inr 10], w) Q ↔ ∃ w1, F_S_loseTest [.inr 10] w = some (none, w1) ∧ cf_wp T_S_close (49, [l0], [], w1) Q := cf_wcv (n := 1) (F := F_S_loseTest) (nx := 49) rfl rfl cf_F_v
theorem c_S_close_46 {l0 : Option cf_AV} {w1 : cf_Wd} {w : cf_Wd} {Q : cf_Rs → Prop} (hs : F_S_loseTest [.inr 10] w = some (none, w1)) : cf_wp T_S_close (46, [l0], [.inr 10], w) Q ↔ cf_wp T_S_close (49, [l0], [], w1) Q := r_S_close_46.trans (cf_xv hs)
theorem r_S_close_49 {l0 : Option cf_AV} {w : cf_Wd} {P : cf_Wd → Prop} : cf_wp T_S_close (49, [l0], [], w) (cf_qv P) ↔ P w := Iff.trans (cf_wr (q := (none, w)) rfl) Iff.rfl
theorem e_S_close {w : cf_Wd} {P : cf_Wd → Prop} (h : cf_wp T_S_close (0, [some (.inr 10)], [], w) (cf_qv P)) : ∃ w1, F_S_close [.inr 10] w = some (none, w1) ∧ P w1 := cf_ev rfl (Nat.le_of_ble_eq_true rfl) h
noncomputable def T_S_planEnds (pc : Nat) : cf_Rw := bif Nat.ble pc 45 then
 (bif Nat.ble pc 20 then
  (bif Nat.ble pc 8 then
   (bif Nat.ble pc 1 then
    (bif Nat.ble pc 0 then
     (bif Nat.beq pc 0 then cf_aload 0 1 else cf_stuck)
     else
     (bif Nat.beq pc 1 then cf_get 3 4 4 else cf_stuck))
    else
    (bif Nat.ble pc 4 then
     (bif Nat.beq pc 4 then cf_aload 0 5 else cf_stuck)
     else
     (bif Nat.ble pc 5 then
      (bif Nat.beq pc 5 then cf_get 3 8 8 else cf_stuck)
      else
      (bif Nat.beq pc 8 then cf_iald 9 else cf_stuck))))
   else
   (bif Nat.ble pc 13 then
    (bif Nat.ble pc 9 then
     (bif Nat.beq pc 9 then cf_ifne 23 12 else cf_stuck)
     else
     (bif Nat.ble pc 12 then
      (bif Nat.beq pc 12 then cf_aload 0 13 else cf_stuck)
      else
      (bif Nat.beq pc 13 then cf_aload 0 14 else cf_stuck)))
    else
    (bif Nat.ble pc 14 then
     (bif Nat.beq pc 14 then cf_get 3 8 17 else cf_stuck)
     else
     (bif Nat.ble pc 17 then
      (bif Nat.beq pc 17 then cf_put 3 14 20 else cf_stuck)
      else
      (bif Nat.beq pc 20 then cf_goto 91 else cf_stuck)))))
  else
  (bif Nat.ble pc 32 then
   (bif Nat.ble pc 27 then
    (bif Nat.ble pc 23 then
     (bif Nat.beq pc 23 then cf_aload 0 24 else cf_stuck)
     else
     (bif Nat.ble pc 24 then
      (bif Nat.beq pc 24 then cf_get 3 4 27 else cf_stuck)
      else
      (bif Nat.beq pc 27 then cf_aload 0 28 else cf_stuck)))
    else
    (bif Nat.ble pc 28 then
     (bif Nat.beq pc 28 then cf_get 3 8 31 else cf_stuck)
     else
     (bif Nat.ble pc 31 then
      (bif Nat.beq pc 31 then cf_iald 32 else cf_stuck)
      else
      (bif Nat.beq pc 32 then cf_const 2 33 else cf_stuck))))
   else
   (bif Nat.ble pc 37 then
    (bif Nat.ble pc 33 then
     (bif Nat.beq pc 33 then cf_iceq 45 36 else cf_stuck)
     else
     (bif Nat.ble pc 36 then
      (bif Nat.beq pc 36 then cf_aload 0 37 else cf_stuck)
      else
      (bif Nat.beq pc 37 then cf_const 6 39 else cf_stuck)))
    else
    (bif Nat.ble pc 39 then
     (bif Nat.beq pc 39 then cf_put 3 6 42 else cf_stuck)
     else
     (bif Nat.ble pc 42 then
      (bif Nat.beq pc 42 then cf_goto 91 else cf_stuck)
      else
      (bif Nat.beq pc 45 then cf_aload 0 46 else cf_stuck))))))
 else
 (bif Nat.ble pc 68 then
  (bif Nat.ble pc 54 then
   (bif Nat.ble pc 49 then
    (bif Nat.ble pc 46 then
     (bif Nat.beq pc 46 then cf_get 3 4 49 else cf_stuck)
     else
     (bif Nat.beq pc 49 then cf_aload 0 50 else cf_stuck))
    else
    (bif Nat.ble pc 50 then
     (bif Nat.beq pc 50 then cf_get 3 7 53 else cf_stuck)
     else
     (bif Nat.ble pc 53 then
      (bif Nat.beq pc 53 then cf_iald 54 else cf_stuck)
      else
      (bif Nat.beq pc 54 then cf_ifne 68 57 else cf_stuck))))
   else
   (bif Nat.ble pc 59 then
    (bif Nat.ble pc 57 then
     (bif Nat.beq pc 57 then cf_aload 0 58 else cf_stuck)
     else
     (bif Nat.ble pc 58 then
      (bif Nat.beq pc 58 then cf_aload 0 59 else cf_stuck)
      else
      (bif Nat.beq pc 59 then cf_get 3 7 62 else cf_stuck)))
    else
    (bif Nat.ble pc 62 then
     (bif Nat.beq pc 62 then cf_put 3 14 65 else cf_stuck)
     else
     (bif Nat.ble pc 65 then
      (bif Nat.beq pc 65 then cf_goto 91 else cf_stuck)
      else
      (bif Nat.beq pc 68 then cf_aload 0 69 else cf_stuck)))))
  else
  (bif Nat.ble pc 78 then
   (bif Nat.ble pc 73 then
    (bif Nat.ble pc 69 then
     (bif Nat.beq pc 69 then cf_aload 0 70 else cf_stuck)
     else
     (bif Nat.ble pc 70 then
      (bif Nat.beq pc 70 then cf_get 3 4 73 else cf_stuck)
      else
      (bif Nat.beq pc 73 then cf_aload 0 74 else cf_stuck)))
    else
    (bif Nat.ble pc 74 then
     (bif Nat.beq pc 74 then cf_get 3 7 77 else cf_stuck)
     else
     (bif Nat.ble pc 77 then
      (bif Nat.beq pc 77 then cf_iald 78 else cf_stuck)
      else
      (bif Nat.beq pc 78 then cf_const 1 79 else cf_stuck))))
   else
   (bif Nat.ble pc 83 then
    (bif Nat.ble pc 79 then
     (bif Nat.beq pc 79 then cf_icne 86 82 else cf_stuck)
     else
     (bif Nat.ble pc 82 then
      (bif Nat.beq pc 82 then cf_const 2 83 else cf_stuck)
      else
      (bif Nat.beq pc 83 then cf_goto 88 else cf_stuck)))
    else
    (bif Nat.ble pc 86 then
     (bif Nat.beq pc 86 then cf_const 6 88 else cf_stuck)
     else
     (bif Nat.ble pc 88 then
      (bif Nat.beq pc 88 then cf_put 3 6 91 else cf_stuck)
      else
      (bif Nat.beq pc 91 then cf_vret else cf_stuck))))))
noncomputable def F_S_planEnds : List cf_AV → cf_Wd → Option cf_Rs := cf_F T_S_planEnds 1 none (cf_shV 10 0)
theorem r_S_planEnds_0 {k : Nat} {st : List cf_AV} {w : cf_Wd} {Q : cf_Rs → Prop} : cf_wp T_S_planEnds (0, [some (.inr k)], st, w) Q ↔ cf_wp T_S_planEnds (1, [some (.inr k)], .inr k :: st, w) Q := cf_w1 rfl
theorem r_S_planEnds_1 {l0 : Option cf_AV} {st : List cf_AV} {w : cf_Wd} {Q : cf_Rs → Prop} : cf_wp T_S_planEnds (1, [l0], .inr 10 :: st, w) Q ↔ cf_wp T_S_planEnds (4, [l0], .inr 14 :: st, w) Q := cf_w1 rfl
theorem r_S_planEnds_4 {k : Nat} {st : List cf_AV} {w : cf_Wd} {Q : cf_Rs → Prop} : cf_wp T_S_planEnds (4, [some (.inr k)], st, w) Q ↔ cf_wp T_S_planEnds (5, [some (.inr k)], .inr k :: st, w) Q := cf_w1 rfl
theorem r_S_planEnds_5 {l0 : Option cf_AV} {st : List cf_AV} {w : cf_Wd} {Q : cf_Rs → Prop} : cf_wp T_S_planEnds (5, [l0], .inr 10 :: st, w) Q ↔ cf_wp T_S_planEnds (8, [l0], .inl (w 10 8) :: st, w) Q := cf_w1 rfl
theorem r_S_planEnds_8 {l0 : Option cf_AV} {i : Int32} {st : List cf_AV} {w : cf_Wd} {Q : cf_Rs → Prop} : cf_wp T_S_planEnds (8, [l0], .inl i :: .inr 14 :: st, w) Q ↔ (cf_in i 14 = true ∧ cf_wp T_S_planEnds (9, [l0], .inl (w 14 i.toNatClampNeg) :: st, w) Q) := cf_wg rfl
theorem r_S_planEnds_9 {l0 : Option cf_AV} {x : Int32} {st : List cf_AV} {w : cf_Wd} {Q : cf_Rs → Prop} : cf_wp T_S_planEnds (9, [l0], .inl x :: st, w) Q ↔ (if ¬ x = 0 then cf_wp T_S_planEnds (23, [l0], st, w) Q else cf_wp T_S_planEnds (12, [l0], st, w) Q) := cf_wi rfl
theorem r_S_planEnds_12 {k : Nat} {st : List cf_AV} {w : cf_Wd} {Q : cf_Rs → Prop} : cf_wp T_S_planEnds (12, [some (.inr k)], st, w) Q ↔ cf_wp T_S_planEnds (13, [some (.inr k)], .inr k :: st, w) Q := cf_w1 rfl
theorem r_S_planEnds_13 {k : Nat} {st : List cf_AV} {w : cf_Wd} {Q : cf_Rs → Prop} : cf_wp T_S_planEnds (13, [some (.inr k)], st, w) Q ↔ cf_wp T_S_planEnds (14, [some (.inr k)], .inr k :: st, w) Q := cf_w1 rfl
theorem r_S_planEnds_14 {l0 : Option cf_AV} {st : List cf_AV} {w : cf_Wd} {Q : cf_Rs → Prop} : cf_wp T_S_planEnds (14, [l0], .inr 10 :: st, w) Q ↔ cf_wp T_S_planEnds (17, [l0], .inl (w 10 8) :: st, w) Q := cf_w1 rfl
theorem r_S_planEnds_17 {l0 : Option cf_AV} {x : Int32} {st : List cf_AV} {w : cf_Wd} {Q : cf_Rs → Prop} : cf_wp T_S_planEnds (17, [l0], .inl x :: .inr 10 :: st, w) Q ↔ cf_wp T_S_planEnds (20, [l0], st, (cf_wa w 10 (upd (w 10) 14 x))) Q := cf_w1 rfl
theorem r_S_planEnds_20 {l0 : Option cf_AV} {st : List cf_AV} {w : cf_Wd} {Q : cf_Rs → Prop} : cf_wp T_S_planEnds (20, [l0], st, w) Q ↔ cf_wp T_S_planEnds (91, [l0], st, w) Q := cf_w1 rfl
theorem r_S_planEnds_23 {k : Nat} {st : List cf_AV} {w : cf_Wd} {Q : cf_Rs → Prop} : cf_wp T_S_planEnds (23, [some (.inr k)], st, w) Q ↔ cf_wp T_S_planEnds (24, [some (.inr k)], .inr k :: st, w) Q := cf_w1 rfl
theorem r_S_planEnds_24 {l0 : Option cf_AV} {st : List cf_AV} {w : cf_Wd} {Q : cf_Rs → Prop} : cf_wp T_S_planEnds (24, [l0], .inr 10 :: st, w) Q ↔ cf_wp T_S_planEnds (27, [l0], .inr 14 :: st, w) Q := cf_w1 rfl
theorem r_S_planEnds_27 {k : Nat} {st : List cf_AV} {w : cf_Wd} {Q : cf_Rs → Prop} : cf_wp T_S_planEnds (27, [some (.inr k)], st, w) Q ↔ cf_wp T_S_planEnds (28, [some (.inr k)], .inr k :: st, w) Q := cf_w1 rfl
theorem r_S_planEnds_28 {l0 : Option cf_AV} {st : List cf_AV} {w : cf_Wd} {Q : cf_Rs → Prop} : cf_wp T_S_planEnds (28, [l0], .inr 10 :: st, w) Q ↔ cf_wp T_S_planEnds (31, [l0], .inl (w 10 8) :: st, w) Q := cf_w1 rfl
theorem r_S_planEnds_31 {l0 : Option cf_AV} {i : Int32} {st : List cf_AV} {w : cf_Wd} {Q : cf_Rs → Prop} : cf_wp T_S_planEnds (31, [l0], .inl i :: .inr 14 :: st, w) Q ↔ (cf_in i 14 = true ∧ cf_wp T_S_planEnds (32, [l0], .inl (w 14 i.toNatClampNeg) :: st, w) Q) := cf_wg rfl
theorem r_S_planEnds_32 {l0 : Option cf_AV} {st : List cf_AV} {w : cf_Wd} {Q : cf_Rs → Prop} : cf_wp T_S_planEnds (32, [l0], st, w) Q ↔ cf_wp T_S_planEnds (33, [l0], .inl 2 :: st, w) Q := cf_w1 rfl
theorem r_S_planEnds_33 {l0 : Option cf_AV} {x y : Int32} {st : List cf_AV} {w : cf_Wd} {Q : cf_Rs → Prop} : cf_wp T_S_planEnds (33, [l0], .inl y :: .inl x :: st, w) Q ↔ (if x = y then cf_wp T_S_planEnds (45, [l0], st, w) Q else cf_wp T_S_planEnds (36, [l0], st, w) Q) := cf_wi rfl
theorem r_S_planEnds_36 {k : Nat} {st : List cf_AV} {w : cf_Wd} {Q : cf_Rs → Prop} : cf_wp T_S_planEnds (36, [some (.inr k)], st, w) Q ↔ cf_wp T_S_planEnds (37, [some (.inr k)], .inr k :: st, w) Q := cf_w1 rfl
theorem r_S_planEnds_37 {l0 : Option cf_AV} {st : List cf_AV} {w : cf_Wd} {Q : cf_Rs → Prop} : cf_wp T_S_planEnds (37, [l0], st, w) Q ↔ cf_wp T_S_planEnds (39, [l0], .inl 6 :: st, w) Q := cf_w1 rfl
theorem r_S_planEnds_39 {l0 : Option cf_AV} {x : Int32} {st : List cf_AV} {w : cf_Wd} {Q : cf_Rs → Prop} : cf_wp T_S_planEnds (39, [l0], .inl x :: .inr 10 :: st, w) Q ↔ cf_wp T_S_planEnds (42, [l0], st, (cf_wa w 10 (upd (w 10) 6 x))) Q := cf_w1 rfl
theorem r_S_planEnds_42 {l0 : Option cf_AV} {st : List cf_AV} {w : cf_Wd} {Q : cf_Rs → Prop} : cf_wp T_S_planEnds (42, [l0], st, w) Q ↔ cf_wp T_S_planEnds (91, [l0], st, w) Q := cf_w1 rfl
theorem r_S_planEnds_45 {k : Nat} {st : List cf_AV} {w : cf_Wd} {Q : cf_Rs → Prop} : cf_wp T_S_planEnds (45, [some (.inr k)], st, w) Q ↔ cf_wp T_S_planEnds (46, [some (.inr k)], .inr k :: st, w) Q := cf_w1 rfl
theorem r_S_planEnds_46 {l0 : Option cf_AV} {st : List cf_AV} {w : cf_Wd} {Q : cf_Rs → Prop} : cf_wp T_S_planEnds (46, [l0], .inr 10 :: st, w) Q ↔ cf_wp T_S_planEnds (49, [l0], .inr 14 :: st, w) Q := cf_w1 rfl
theorem r_S_planEnds_49 {k : Nat} {st : List cf_AV} {w : cf_Wd} {Q : cf_Rs → Prop} : cf_wp T_S_planEnds (49, [some (.inr k)], st, w) Q ↔ cf_wp T_S_planEnds (50, [some (.inr k)], .inr k :: st, w) Q := cf_w1 rfl
theorem r_S_planEnds_50 {l0 : Option cf_AV} {st : List cf_AV} {w : cf_Wd} {Q : cf_Rs → Prop} : cf_wp T_S_planEnds (50, [l0], .inr 10 :: st, w) Q ↔ cf_wp T_S_planEnds (53, [l0], .inl (w 10 7) :: st, w) Q := cf_w1 rfl
theorem r_S_planEnds_53 {l0 : Option cf_AV} {i : Int32} {st : List cf_AV} {w : cf_Wd} {Q : cf_Rs → Prop} : cf_wp T_S_planEnds (53, [l0], .inl i :: .inr 14 :: st, w) Q ↔ (cf_in i 14 = true ∧ cf_wp T_S_planEnds (54, [l0], .inl (w 14 i.toNatClampNeg) :: st, w) Q) := cf_wg rfl
theorem r_S_planEnds_54 {l0 : Option cf_AV} {x : Int32} {st : List cf_AV} {w : cf_Wd} {Q : cf_Rs → Prop} : cf_wp T_S_planEnds (54, [l0], .inl x :: st, w) Q ↔ (if ¬ x = 0 then cf_wp T_S_planEnds (68, [l0], st, w) Q else cf_wp T_S_planEnds (57, [l0], st, w) Q) := cf_wi rfl
theorem r_S_planEnds_57 {k : Nat} {st : List cf_AV} {w : cf_Wd} {Q : cf_Rs → Prop} : cf_wp T_S_planEnds (57, [some (.inr k)], st, w) Q ↔ cf_wp T_S_planEnds (58, [some (.inr k)], .inr k :: st, w) Q := cf_w1 rfl
theorem r_S_planEnds_58 {k : Nat} {st : List cf_AV} {w : cf_Wd} {Q : cf_Rs → Prop} : cf_wp T_S_planEnds (58, [some (.inr k)], st, w) Q ↔ cf_wp T_S_planEnds (59, [some (.inr k)], .inr k :: st, w) Q := cf_w1 rfl
theorem r_S_planEnds_59 {l0 : Option cf_AV} {st : List cf_AV} {w : cf_Wd} {Q : cf_Rs → Prop} : cf_wp T_S_planEnds (59, [l0], .inr 10 :: st, w) Q ↔ cf_wp T_S_planEnds (62, [l0], .inl (w 10 7) :: st, w) Q := cf_w1 rfl
theorem r_S_planEnds_62 {l0 : Option cf_AV} {x : Int32} {st : List cf_AV} {w : cf_Wd} {Q : cf_Rs → Prop} : cf_wp T_S_planEnds (62, [l0], .inl x :: .inr 10 :: st, w) Q ↔ cf_wp T_S_planEnds (65, [l0], st, (cf_wa w 10 (upd (w 10) 14 x))) Q := cf_w1 rfl
theorem r_S_planEnds_65 {l0 : Option cf_AV} {st : List cf_AV} {w : cf_Wd} {Q : cf_Rs → Prop} : cf_wp T_S_planEnds (65, [l0], st, w) Q ↔ cf_wp T_S_planEnds (91, [l0], st, w) Q := cf_w1 rfl
theorem r_S_planEnds_68 {k : Nat} {st : List cf_AV} {w : cf_Wd} {Q : cf_Rs → Prop} : cf_wp T_S_planEnds (68, [some (.inr k)], st, w) Q ↔ cf_wp T_S_planEnds (69, [some (.inr k)], .inr k :: st, w) Q := cf_w1 rfl
theorem r_S_planEnds_69 {k : Nat} {st : List cf_AV} {w : cf_Wd} {Q : cf_Rs → Prop} : cf_wp T_S_planEnds (69, [some (.inr k)], st, w) Q ↔ cf_wp T_S_planEnds (70, [some (.inr k)], .inr k :: st, w) Q := cf_w1 rfl
theorem r_S_planEnds_70 {l0 : Option cf_AV} {st : List cf_AV} {w : cf_Wd} {Q : cf_Rs → Prop} : cf_wp T_S_planEnds (70, [l0], .inr 10 :: st, w) Q ↔ cf_wp T_S_planEnds (73, [l0], .inr 14 :: st, w) Q := cf_w1 rfl
theorem r_S_planEnds_73 {k : Nat} {st : List cf_AV} {w : cf_Wd} {Q : cf_Rs → Prop} : cf_wp T_S_planEnds (73, [some (.inr k)], st, w) Q ↔ cf_wp T_S_planEnds (74, [some (.inr k)], .inr k :: st, w) Q := cf_w1 rfl
theorem r_S_planEnds_74 {l0 : Option cf_AV} {st : List cf_AV} {w : cf_Wd} {Q : cf_Rs → Prop} : cf_wp T_S_planEnds (74, [l0], .inr 10 :: st, w) Q ↔ cf_wp T_S_planEnds (77, [l0], .inl (w 10 7) :: st, w) Q := cf_w1 rfl
theorem r_S_planEnds_77 {l0 : Option cf_AV} {i : Int32} {st : List cf_AV} {w : cf_Wd} {Q : cf_Rs → Prop} : cf_wp T_S_planEnds (77, [l0], .inl i :: .inr 14 :: st, w) Q ↔ (cf_in i 14 = true ∧ cf_wp T_S_planEnds (78, [l0], .inl (w 14 i.toNatClampNeg) :: st, w) Q) := cf_wg rfl
theorem r_S_planEnds_78 {l0 : Option cf_AV} {st : List cf_AV} {w : cf_Wd} {Q : cf_Rs → Prop} : cf_wp T_S_planEnds (78, [l0], st, w) Q ↔ cf_wp T_S_planEnds (79, [l0], .inl 1 :: st, w) Q := cf_w1 rfl
theorem r_S_planEnds_79 {l0 : Option cf_AV} {x y : Int32} {st : List cf_AV} {w : cf_Wd} {Q : cf_Rs → Prop} : cf_wp T_S_planEnds (79, [l0], .inl y :: .inl x :: st, w) Q ↔ (if ¬ x = y then cf_wp T_S_planEnds (86, [l0], st, w) Q else cf_wp T_S_planEnds (82, [l0], st, w) Q) := cf_wi rfl
theorem r_S_planEnds_82 {l0 : Option cf_AV} {st : List cf_AV} {w : cf_Wd} {Q : cf_Rs → Prop} : cf_wp T_S_planEnds (82, [l0], st, w) Q ↔ cf_wp T_S_planEnds (83, [l0], .inl 2 :: st, w) Q := cf_w1 rfl
theorem r_S_planEnds_83 {l0 : Option cf_AV} {st : List cf_AV} {w : cf_Wd} {Q : cf_Rs → Prop} : cf_wp T_S_planEnds (83, [l0], st, w) Q ↔ cf_wp T_S_planEnds (88, [l0], st, w) Q := cf_w1 rfl
theorem r_S_planEnds_86 {l0 : Option cf_AV} {st : List cf_AV} {w : cf_Wd} {Q : cf_Rs → Prop} : cf_wp T_S_planEnds (86, [l0], st, w) Q ↔ cf_wp T_S_planEnds (88, [l0], .inl 6 :: st, w) Q := cf_w1 rfl
theorem r_S_planEnds_88 {l0 : Option cf_AV} {x : Int32} {st : List cf_AV} {w : cf_Wd} {Q : cf_Rs → Prop} : cf_wp T_S_planEnds (88, [l0], .inl x :: .inr 10 :: st, w) Q ↔ cf_wp T_S_planEnds (91, [l0], st, (cf_wa w 10 (upd (w 10) 6 x))) Q := cf_w1 rfl
theorem r_S_planEnds_91 {l0 : Option cf_AV} {w : cf_Wd} {P : cf_Wd → Prop} : cf_wp T_S_planEnds (91, [l0], [], w) (cf_qv P) ↔ P w := Iff.trans (cf_wr (q := (none, w)) rfl) Iff.rfl
theorem e_S_planEnds {w : cf_Wd} {P : cf_Wd → Prop} (h : cf_wp T_S_planEnds (0, [some (.inr 10)], [], w) (cf_qv P)) : ∃ w1, F_S_planEnds [.inr 10] w = some (none, w1) ∧ P w1 := cf_ev rfl (Nat.le_of_ble_eq_true rfl) h
noncomputable def T_J_bitCount (pc : Nat) : cf_Rw := bif Nat.ble pc 26 then
 (bif Nat.ble pc 11 then
  (bif Nat.ble pc 4 then
   (bif Nat.ble pc 1 then
    (bif Nat.ble pc 0 then
     (bif Nat.beq pc 0 then cf_iload 0 1 else cf_stuck)
     else
     (bif Nat.beq pc 1 then cf_iload 0 2 else cf_stuck))
    else
    (bif Nat.ble pc 2 then
     (bif Nat.beq pc 2 then cf_const 1 3 else cf_stuck)
     else
     (bif Nat.ble pc 3 then
      (bif Nat.beq pc 3 then cf_bin (fun x y => (x.toUInt32 >>> (y.toUInt32 &&& Int32.toUInt32 31)).toInt32) 4 else cf_stuck)
      else
      (bif Nat.beq pc 4 then cf_const 1431655765 7 else cf_stuck))))
   else
   (bif Nat.ble pc 8 then
    (bif Nat.ble pc 7 then
     (bif Nat.beq pc 7 then cf_bin (fun x y => x &&& y) 8 else cf_stuck)
     else
     (bif Nat.beq pc 8 then cf_bin (fun x y => x - y) 9 else cf_stuck))
    else
    (bif Nat.ble pc 9 then
     (bif Nat.beq pc 9 then cf_istore 0 10 else cf_stuck)
     else
     (bif Nat.ble pc 10 then
      (bif Nat.beq pc 10 then cf_iload 0 11 else cf_stuck)
      else
      (bif Nat.beq pc 11 then cf_const 858993459 14 else cf_stuck)))))
  else
  (bif Nat.ble pc 18 then
   (bif Nat.ble pc 15 then
    (bif Nat.ble pc 14 then
     (bif Nat.beq pc 14 then cf_bin (fun x y => x &&& y) 15 else cf_stuck)
     else
     (bif Nat.beq pc 15 then cf_iload 0 16 else cf_stuck))
    else
    (bif Nat.ble pc 16 then
     (bif Nat.beq pc 16 then cf_const 2 17 else cf_stuck)
     else
     (bif Nat.ble pc 17 then
      (bif Nat.beq pc 17 then cf_bin (fun x y => (x.toUInt32 >>> (y.toUInt32 &&& Int32.toUInt32 31)).toInt32) 18 else cf_stuck)
      else
      (bif Nat.beq pc 18 then cf_const 858993459 21 else cf_stuck))))
   else
   (bif Nat.ble pc 23 then
    (bif Nat.ble pc 21 then
     (bif Nat.beq pc 21 then cf_bin (fun x y => x &&& y) 22 else cf_stuck)
     else
     (bif Nat.ble pc 22 then
      (bif Nat.beq pc 22 then cf_bin (fun x y => x + y) 23 else cf_stuck)
      else
      (bif Nat.beq pc 23 then cf_istore 0 24 else cf_stuck)))
    else
    (bif Nat.ble pc 24 then
     (bif Nat.beq pc 24 then cf_iload 0 25 else cf_stuck)
     else
     (bif Nat.ble pc 25 then
      (bif Nat.beq pc 25 then cf_iload 0 26 else cf_stuck)
      else
      (bif Nat.beq pc 26 then cf_const 4 27 else cf_stuck))))))
 else
 (bif Nat.ble pc 39 then
  (bif Nat.ble pc 33 then
   (bif Nat.ble pc 28 then
    (bif Nat.ble pc 27 then
     (bif Nat.beq pc 27 then cf_bin (fun x y => (x.toUInt32 >>> (y.toUInt32 &&& Int32.toUInt32 31)).toInt32) 28 else cf_stuck)
     else
     (bif Nat.beq pc 28 then cf_bin (fun x y => x + y) 29 else cf_stuck))
    else
    (bif Nat.ble pc 29 then
     (bif Nat.beq pc 29 then cf_const 252645135 32 else cf_stuck)
     else
     (bif Nat.ble pc 32 then
      (bif Nat.beq pc 32 then cf_bin (fun x y => x &&& y) 33 else cf_stuck)
      else
      (bif Nat.beq pc 33 then cf_istore 0 34 else cf_stuck))))
   else
   (bif Nat.ble pc 35 then
    (bif Nat.ble pc 34 then
     (bif Nat.beq pc 34 then cf_iload 0 35 else cf_stuck)
     else
     (bif Nat.beq pc 35 then cf_iload 0 36 else cf_stuck))
    else
    (bif Nat.ble pc 36 then
     (bif Nat.beq pc 36 then cf_const 8 38 else cf_stuck)
     else
     (bif Nat.ble pc 38 then
      (bif Nat.beq pc 38 then cf_bin (fun x y => (x.toUInt32 >>> (y.toUInt32 &&& Int32.toUInt32 31)).toInt32) 39 else cf_stuck)
      else
      (bif Nat.beq pc 39 then cf_bin (fun x y => x + y) 40 else cf_stuck)))))
  else
  (bif Nat.ble pc 45 then
   (bif Nat.ble pc 41 then
    (bif Nat.ble pc 40 then
     (bif Nat.beq pc 40 then cf_istore 0 41 else cf_stuck)
     else
     (bif Nat.beq pc 41 then cf_iload 0 42 else cf_stuck))
    else
    (bif Nat.ble pc 42 then
     (bif Nat.beq pc 42 then cf_iload 0 43 else cf_stuck)
     else
     (bif Nat.ble pc 43 then
      (bif Nat.beq pc 43 then cf_const 16 45 else cf_stuck)
      else
      (bif Nat.beq pc 45 then cf_bin (fun x y => (x.toUInt32 >>> (y.toUInt32 &&& Int32.toUInt32 31)).toInt32) 46 else cf_stuck))))
   else
   (bif Nat.ble pc 48 then
    (bif Nat.ble pc 46 then
     (bif Nat.beq pc 46 then cf_bin (fun x y => x + y) 47 else cf_stuck)
     else
     (bif Nat.ble pc 47 then
      (bif Nat.beq pc 47 then cf_istore 0 48 else cf_stuck)
      else
      (bif Nat.beq pc 48 then cf_iload 0 49 else cf_stuck)))
    else
    (bif Nat.ble pc 49 then
     (bif Nat.beq pc 49 then cf_const 63 51 else cf_stuck)
     else
     (bif Nat.ble pc 51 then
      (bif Nat.beq pc 51 then cf_bin (fun x y => x &&& y) 52 else cf_stuck)
      else
      (bif Nat.beq pc 52 then cf_iret else cf_stuck))))))
noncomputable def F_J_bitCount : List cf_AV → cf_Wd → Option cf_Rs := cf_F T_J_bitCount 1 (some .int) (cf_shS 1)
theorem r_J_bitCount_0 {x : Int32} {st : List cf_AV} {w : cf_Wd} {Q : cf_Rs → Prop} : cf_wp T_J_bitCount (0, [some (.inl x)], st, w) Q ↔ cf_wp T_J_bitCount (1, [some (.inl x)], .inl x :: st, w) Q := cf_w1 rfl
theorem r_J_bitCount_1 {x : Int32} {st : List cf_AV} {w : cf_Wd} {Q : cf_Rs → Prop} : cf_wp T_J_bitCount (1, [some (.inl x)], st, w) Q ↔ cf_wp T_J_bitCount (2, [some (.inl x)], .inl x :: st, w) Q := cf_w1 rfl
theorem r_J_bitCount_2 {l0 : Option cf_AV} {st : List cf_AV} {w : cf_Wd} {Q : cf_Rs → Prop} : cf_wp T_J_bitCount (2, [l0], st, w) Q ↔ cf_wp T_J_bitCount (3, [l0], .inl 1 :: st, w) Q := cf_w1 rfl
theorem r_J_bitCount_3 {l0 : Option cf_AV} {x y : Int32} {st : List cf_AV} {w : cf_Wd} {Q : cf_Rs → Prop} : cf_wp T_J_bitCount (3, [l0], .inl y :: .inl x :: st, w) Q ↔ cf_wp T_J_bitCount (4, [l0], .inl ((x.toUInt32 >>> (y.toUInt32 &&& Int32.toUInt32 31)).toInt32) :: st, w) Q := cf_w1 rfl
theorem r_J_bitCount_4 {l0 : Option cf_AV} {st : List cf_AV} {w : cf_Wd} {Q : cf_Rs → Prop} : cf_wp T_J_bitCount (4, [l0], st, w) Q ↔ cf_wp T_J_bitCount (7, [l0], .inl 1431655765 :: st, w) Q := cf_w1 rfl
theorem r_J_bitCount_7 {l0 : Option cf_AV} {x y : Int32} {st : List cf_AV} {w : cf_Wd} {Q : cf_Rs → Prop} : cf_wp T_J_bitCount (7, [l0], .inl y :: .inl x :: st, w) Q ↔ cf_wp T_J_bitCount (8, [l0], .inl (x &&& y) :: st, w) Q := cf_w1 rfl
theorem r_J_bitCount_8 {l0 : Option cf_AV} {x y : Int32} {st : List cf_AV} {w : cf_Wd} {Q : cf_Rs → Prop} : cf_wp T_J_bitCount (8, [l0], .inl y :: .inl x :: st, w) Q ↔ cf_wp T_J_bitCount (9, [l0], .inl (x - y) :: st, w) Q := cf_w1 rfl
theorem r_J_bitCount_9 {l0 : Option cf_AV} {x : Int32} {st : List cf_AV} {w : cf_Wd} {Q : cf_Rs → Prop} : cf_wp T_J_bitCount (9, [l0], .inl x :: st, w) Q ↔ cf_wp T_J_bitCount (10, [some (.inl x)], st, w) Q := cf_w1 rfl
theorem r_J_bitCount_10 {x : Int32} {st : List cf_AV} {w : cf_Wd} {Q : cf_Rs → Prop} : cf_wp T_J_bitCount (10, [some (.inl x)], st, w) Q ↔ cf_wp T_J_bitCount (11, [some (.inl x)], .inl x :: st, w) Q := cf_w1 rfl
theorem r_J_bitCount_11 {l0 : Option cf_AV} {st : List cf_AV} {w : cf_Wd} {Q : cf_Rs → Prop} : cf_wp T_J_bitCount (11, [l0], st, w) Q ↔ cf_wp T_J_bitCount (14, [l0], .inl 858993459 :: st, w) Q := cf_w1 rfl
theorem r_J_bitCount_14 {l0 : Option cf_AV} {x y : Int32} {st : List cf_AV} {w : cf_Wd} {Q : cf_Rs → Prop} : cf_wp T_J_bitCount (14, [l0], .inl y :: .inl x :: st, w) Q ↔ cf_wp T_J_bitCount (15, [l0], .inl (x &&& y) :: st, w) Q := cf_w1 rfl
theorem r_J_bitCount_15 {x : Int32} {st : List cf_AV} {w : cf_Wd} {Q : cf_Rs → Prop} : cf_wp T_J_bitCount (15, [some (.inl x)], st, w) Q ↔ cf_wp T_J_bitCount (16, [some (.inl x)], .inl x :: st, w) Q := cf_w1 rfl
theorem r_J_bitCount_16 {l0 : Option cf_AV} {st : List cf_AV} {w : cf_Wd} {Q : cf_Rs → Prop} : cf_wp T_J_bitCount (16, [l0], st, w) Q ↔ cf_wp T_J_bitCount (17, [l0], .inl 2 :: st, w) Q := cf_w1 rfl
theorem r_J_bitCount_17 {l0 : Option cf_AV} {x y : Int32} {st : List cf_AV} {w : cf_Wd} {Q : cf_Rs → Prop} : cf_wp T_J_bitCount (17, [l0], .inl y :: .inl x :: st, w) Q ↔ cf_wp T_J_bitCount (18, [l0], .inl ((x.toUInt32 >>> (y.toUInt32 &&& Int32.toUInt32 31)).toInt32) :: st, w) Q := cf_w1 rfl
theorem r_J_bitCount_18 {l0 : Option cf_AV} {st : List cf_AV} {w : cf_Wd} {Q : cf_Rs → Prop} : cf_wp T_J_bitCount (18, [l0], st, w) Q ↔ cf_wp T_J_bitCount (21, [l0], .inl 858993459 :: st, w) Q := cf_w1 rfl
theorem r_J_bitCount_21 {l0 : Option cf_AV} {x y : Int32} {st : List cf_AV} {w : cf_Wd} {Q : cf_Rs → Prop} : cf_wp T_J_bitCount (21, [l0], .inl y :: .inl x :: st, w) Q ↔ cf_wp T_J_bitCount (22, [l0], .inl (x &&& y) :: st, w) Q := cf_w1 rfl
theorem r_J_bitCount_22 {l0 : Option cf_AV} {x y : Int32} {st : List cf_AV} {w : cf_Wd} {Q : cf_Rs → Prop} : cf_wp T_J_bitCount (22, [l0], .inl y :: .inl x :: st, w) Q ↔ cf_wp T_J_bitCount (23, [l0], .inl (x + y) :: st, w) Q := cf_w1 rfl
theorem r_J_bitCount_23 {l0 : Option cf_AV} {x : Int32} {st : List cf_AV} {w : cf_Wd} {Q : cf_Rs → Prop} : cf_wp T_J_bitCount (23, [l0], .inl x :: st, w) Q ↔ cf_wp T_J_bitCount (24, [some (.inl x)], st, w) Q := cf_w1 rfl
theorem r_J_bitCount_24 {x : Int32} {st : List cf_AV} {w : cf_Wd} {Q : cf_Rs → Prop} : cf_wp T_J_bitCount (24, [some (.inl x)], st, w) Q ↔ cf_wp T_J_bitCount (25, [some (.inl x)], .inl x :: st, w) Q := cf_w1 rfl
theorem r_J_bitCount_25 {x : Int32} {st : List cf_AV} {w : cf_Wd} {Q : cf_Rs → Prop} : cf_wp T_J_bitCount (25, [some (.inl x)], st, w) Q ↔ cf_wp T_J_bitCount (26, [some (.inl x)], .inl x :: st, w) Q := cf_w1 rfl
theorem r_J_bitCount_26 {l0 : Option cf_AV} {st : List cf_AV} {w : cf_Wd} {Q : cf_Rs → Prop} : cf_wp T_J_bitCount (26, [l0], st, w) Q ↔ cf_wp T_J_bitCount (27, [l0], .inl 4 :: st, w) Q := cf_w1 rfl
theorem r_J_bitCount_27 {l0 : Option cf_AV} {x y : Int32} {st : List cf_AV} {w : cf_Wd} {Q : cf_Rs → Prop} : cf_wp T_J_bitCount (27, [l0], .inl y :: .inl x :: st, w) Q ↔ cf_wp T_J_bitCount (28, [l0], .inl ((x.toUInt32 >>> (y.toUInt32 &&& Int32.toUInt32 31)).toInt32) :: st, w) Q := cf_w1 rfl
theorem r_J_bitCount_28 {l0 : Option cf_AV} {x y : Int32} {st : List cf_AV} {w : cf_Wd} {Q : cf_Rs → Prop} : cf_wp T_J_bitCount (28, [l0], .inl y :: .inl x :: st, w) Q ↔ cf_wp T_J_bitCount (29, [l0], .inl (x + y) :: st, w) Q := cf_w1 rfl
theorem r_J_bitCount_29 {l0 : Option cf_AV} {st : List cf_AV} {w : cf_Wd} {Q : cf_Rs → Prop} : cf_wp T_J_bitCount (29, [l0], st, w) Q ↔ cf_wp T_J_bitCount (32, [l0], .inl 252645135 :: st, w) Q := cf_w1 rfl
theorem r_J_bitCount_32 {l0 : Option cf_AV} {x y : Int32} {st : List cf_AV} {w : cf_Wd} {Q : cf_Rs → Prop} : cf_wp T_J_bitCount (32, [l0], .inl y :: .inl x :: st, w) Q ↔ cf_wp T_J_bitCount (33, [l0], .inl (x &&& y) :: st, w) Q := cf_w1 rfl
theorem r_J_bitCount_33 {l0 : Option cf_AV} {x : Int32} {st : List cf_AV} {w : cf_Wd} {Q : cf_Rs → Prop} : cf_wp T_J_bitCount (33, [l0], .inl x :: st, w) Q ↔ cf_wp T_J_bitCount (34, [some (.inl x)], st, w) Q := cf_w1 rfl
theorem r_J_bitCount_34 {x : Int32} {st : List cf_AV} {w : cf_Wd} {Q : cf_Rs → Prop} : cf_wp T_J_bitCount (34, [some (.inl x)], st, w) Q ↔ cf_wp T_J_bitCount (35, [some (.inl x)], .inl x :: st, w) Q := cf_w1 rfl
theorem r_J_bitCount_35 {x : Int32} {st : List cf_AV} {w : cf_Wd} {Q : cf_Rs → Prop} : cf_wp T_J_bitCount (35, [some (.inl x)], st, w) Q ↔ cf_wp T_J_bitCount (36, [some (.inl x)], .inl x :: st, w) Q := cf_w1 rfl
theorem r_J_bitCount_36 {l0 : Option cf_AV} {st : List cf_AV} {w : cf_Wd} {Q : cf_Rs → Prop} : cf_wp T_J_bitCount (36, [l0], st, w) Q ↔ cf_wp T_J_bitCount (38, [l0], .inl 8 :: st, w) Q := cf_w1 rfl
theorem r_J_bitCount_38 {l0 : Option cf_AV} {x y : Int32} {st : List cf_AV} {w : cf_Wd} {Q : cf_Rs → Prop} : cf_wp T_J_bitCount (38, [l0], .inl y :: .inl x :: st, w) Q ↔ cf_wp T_J_bitCount (39, [l0], .inl ((x.toUInt32 >>> (y.toUInt32 &&& Int32.toUInt32 31)).toInt32) :: st, w) Q := cf_w1 rfl
theorem r_J_bitCount_39 {l0 : Option cf_AV} {x y : Int32} {st : List cf_AV} {w : cf_Wd} {Q : cf_Rs → Prop} : cf_wp T_J_bitCount (39, [l0], .inl y :: .inl x :: st, w) Q ↔ cf_wp T_J_bitCount (40, [l0], .inl (x + y) :: st, w) Q := cf_w1 rfl
theorem r_J_bitCount_40 {l0 : Option cf_AV} {x : Int32} {st : List cf_AV} {w : cf_Wd} {Q : cf_Rs → Prop} : cf_wp T_J_bitCount (40, [l0], .inl x :: st, w) Q ↔ cf_wp T_J_bitCount (41, [some (.inl x)], st, w) Q := cf_w1 rfl
theorem r_J_bitCount_41 {x : Int32} {st : List cf_AV} {w : cf_Wd} {Q : cf_Rs → Prop} : cf_wp T_J_bitCount (41, [some (.inl x)], st, w) Q ↔ cf_wp T_J_bitCount (42, [some (.inl x)], .inl x :: st, w) Q := cf_w1 rfl
theorem r_J_bitCount_42 {x : Int32} {st : List cf_AV} {w : cf_Wd} {Q : cf_Rs → Prop} : cf_wp T_J_bitCount (42, [some (.inl x)], st, w) Q ↔ cf_wp T_J_bitCount (43, [some (.inl x)], .inl x :: st, w) Q := cf_w1 rfl
theorem r_J_bitCount_43 {l0 : Option cf_AV} {st : List cf_AV} {w : cf_Wd} {Q : cf_Rs → Prop} : cf_wp T_J_bitCount (43, [l0], st, w) Q ↔ cf_wp T_J_bitCount (45, [l0], .inl 16 :: st, w) Q := cf_w1 rfl
theorem r_J_bitCount_45 {l0 : Option cf_AV} {x y : Int32} {st : List cf_AV} {w : cf_Wd} {Q : cf_Rs → Prop} : cf_wp T_J_bitCount (45, [l0], .inl y :: .inl x :: st, w) Q ↔ cf_wp T_J_bitCount (46, [l0], .inl ((x.toUInt32 >>> (y.toUInt32 &&& Int32.toUInt32 31)).toInt32) :: st, w) Q := cf_w1 rfl
theorem r_J_bitCount_46 {l0 : Option cf_AV} {x y : Int32} {st : List cf_AV} {w : cf_Wd} {Q : cf_Rs → Prop} : cf_wp T_J_bitCount (46, [l0], .inl y :: .inl x :: st, w) Q ↔ cf_wp T_J_bitCount (47, [l0], .inl (x + y) :: st, w) Q := cf_w1 rfl
theorem r_J_bitCount_47 {l0 : Option cf_AV} {x : Int32} {st : List cf_AV} {w : cf_Wd} {Q : cf_Rs → Prop} : cf_wp T_J_bitCount (47, [l0], .inl x :: st, w) Q ↔ cf_wp T_J_bitCount (48, [some (.inl x)], st, w) Q := cf_w1 rfl
theorem r_J_bitCount_48 {x : Int32} {st : List cf_AV} {w : cf_Wd} {Q : cf_Rs → Prop} : cf_wp T_J_bitCount (48, [some (.inl x)], st, w) Q ↔ cf_wp T_J_bitCount (49, [some (.inl x)], .inl x :: st, w) Q := cf_w1 rfl
theorem r_J_bitCount_49 {l0 : Option cf_AV} {st : List cf_AV} {w : cf_Wd} {Q : cf_Rs → Prop} : cf_wp T_J_bitCount (49, [l0], st, w) Q ↔ cf_wp T_J_bitCount (51, [l0], .inl 63 :: st, w) Q := cf_w1 rfl
theorem r_J_bitCount_51 {l0 : Option cf_AV} {x y : Int32} {st : List cf_AV} {w : cf_Wd} {Q : cf_Rs → Prop} : cf_wp T_J_bitCount (51, [l0], .inl y :: .inl x :: st, w) Q ↔ cf_wp T_J_bitCount (52, [l0], .inl (x &&& y) :: st, w) Q := cf_w1 rfl
theorem r_J_bitCount_52 {l0 : Option cf_AV} {x : Int32} {w : cf_Wd} {P : Int32 → cf_Wd → Prop} : cf_wp T_J_bitCount (52, [l0], [.inl x], w) (cf_qi P) ↔ P x w := Iff.trans (cf_wr (q := (some (.inl x), w)) rfl) Iff.rfl
theorem e_J_bitCount {a0 : Int32} {w : cf_Wd} {P : Int32 → cf_Wd → Prop} (h : cf_wp T_J_bitCount (0, [some (.inl a0)], [], w) (cf_qi P)) : ∃ x w1, F_J_bitCount [.inl a0] w = some (some (.inl x), w1) ∧ P x w1 := cf_ei rfl (Nat.le_of_ble_eq_true rfl) h
noncomputable def T_S_isSuspect (pc : Nat) : cf_Rw := bif Nat.ble pc 15 then
 (bif Nat.ble pc 5 then
  (bif Nat.ble pc 1 then
   (bif Nat.ble pc 0 then
    (bif Nat.beq pc 0 then cf_aload 0 1 else cf_stuck)
    else
    (bif Nat.beq pc 1 then cf_get 3 0 4 else cf_stuck))
   else
   (bif Nat.ble pc 4 then
    (bif Nat.beq pc 4 then cf_iload 1 5 else cf_stuck)
    else
    (bif Nat.beq pc 5 then cf_call 2 F_H_has 8 else cf_stuck)))
  else
  (bif Nat.ble pc 11 then
   (bif Nat.ble pc 8 then
    (bif Nat.beq pc 8 then cf_ifeq 26 11 else cf_stuck)
    else
    (bif Nat.beq pc 11 then cf_aload 0 12 else cf_stuck))
   else
   (bif Nat.ble pc 12 then
    (bif Nat.beq pc 12 then cf_get 3 12 15 else cf_stuck)
    else
    (bif Nat.beq pc 15 then cf_iload 1 16 else cf_stuck))))
 else
 (bif Nat.ble pc 19 then
  (bif Nat.ble pc 17 then
   (bif Nat.ble pc 16 then
    (bif Nat.beq pc 16 then cf_bin (fun x y => x >>> (y &&& 31)) 17 else cf_stuck)
    else
    (bif Nat.beq pc 17 then cf_const 1 18 else cf_stuck))
   else
   (bif Nat.ble pc 18 then
    (bif Nat.beq pc 18 then cf_bin (fun x y => x &&& y) 19 else cf_stuck)
    else
    (bif Nat.beq pc 19 then cf_ifeq 26 22 else cf_stuck)))
  else
  (bif Nat.ble pc 23 then
   (bif Nat.ble pc 22 then
    (bif Nat.beq pc 22 then cf_const 1 23 else cf_stuck)
    else
    (bif Nat.beq pc 23 then cf_goto 27 else cf_stuck))
   else
   (bif Nat.ble pc 26 then
    (bif Nat.beq pc 26 then cf_const 0 27 else cf_stuck)
    else
    (bif Nat.beq pc 27 then cf_iret else cf_stuck))))
noncomputable def F_S_isSuspect : List cf_AV → cf_Wd → Option cf_Rs := cf_F T_S_isSuspect 2 (some .boolean) (cf_shV 10 1)
theorem r_S_isSuspect_0 {l1 : Option cf_AV} {k : Nat} {st : List cf_AV} {w : cf_Wd} {Q : cf_Rs → Prop} : cf_wp T_S_isSuspect (0, [some (.inr k), l1], st, w) Q ↔ cf_wp T_S_isSuspect (1, [some (.inr k), l1], .inr k :: st, w) Q := cf_w1 rfl
theorem r_S_isSuspect_1 {l0 l1 : Option cf_AV} {st : List cf_AV} {w : cf_Wd} {Q : cf_Rs → Prop} : cf_wp T_S_isSuspect (1, [l0, l1], .inr 10 :: st, w) Q ↔ cf_wp T_S_isSuspect (4, [l0, l1], .inr 1 :: st, w) Q := cf_w1 rfl
theorem r_S_isSuspect_4 {l0 : Option cf_AV} {x : Int32} {st : List cf_AV} {w : cf_Wd} {Q : cf_Rs → Prop} : cf_wp T_S_isSuspect (4, [l0, some (.inl x)], st, w) Q ↔ cf_wp T_S_isSuspect (5, [l0, some (.inl x)], .inl x :: st, w) Q := cf_w1 rfl
theorem r_S_isSuspect_5 {l0 l1 : Option cf_AV} {a1 : Int32} {w : cf_Wd} {Q : cf_Rs → Prop} : cf_wp T_S_isSuspect (5, [l0, l1], [.inl a1, .inr 1], w) Q ↔ ∃ x w1, F_H_has [.inr 1, .inl a1] w = some (some (.inl x), w1) ∧ cf_wp T_S_isSuspect (8, [l0, l1], [.inl x], w1) Q := cf_wci (n := 2) (F := F_H_has) (nx := 8) rfl rfl cf_F_b
theorem c_S_isSuspect_5 {l0 l1 : Option cf_AV} {a1 : Int32} {x1 : Int32} {w1 : cf_Wd} {w : cf_Wd} {Q : cf_Rs → Prop} (hs : F_H_has [.inr 1, .inl a1] w = some (some (.inl x1), w1)) : cf_wp T_S_isSuspect (5, [l0, l1], [.inl a1, .inr 1], w) Q ↔ cf_wp T_S_isSuspect (8, [l0, l1], [.inl x1], w1) Q := r_S_isSuspect_5.trans (cf_xi hs)
theorem r_S_isSuspect_8 {l0 l1 : Option cf_AV} {x : Int32} {st : List cf_AV} {w : cf_Wd} {Q : cf_Rs → Prop} : cf_wp T_S_isSuspect (8, [l0, l1], .inl x :: st, w) Q ↔ (if x = 0 then cf_wp T_S_isSuspect (26, [l0, l1], st, w) Q else cf_wp T_S_isSuspect (11, [l0, l1], st, w) Q) := cf_wi rfl
theorem r_S_isSuspect_11 {l1 : Option cf_AV} {k : Nat} {st : List cf_AV} {w : cf_Wd} {Q : cf_Rs → Prop} : cf_wp T_S_isSuspect (11, [some (.inr k), l1], st, w) Q ↔ cf_wp T_S_isSuspect (12, [some (.inr k), l1], .inr k :: st, w) Q := cf_w1 rfl
theorem r_S_isSuspect_12 {l0 l1 : Option cf_AV} {st : List cf_AV} {w : cf_Wd} {Q : cf_Rs → Prop} : cf_wp T_S_isSuspect (12, [l0, l1], .inr 10 :: st, w) Q ↔ cf_wp T_S_isSuspect (15, [l0, l1], .inl (w 10 12) :: st, w) Q := cf_w1 rfl
theorem r_S_isSuspect_15 {l0 : Option cf_AV} {x : Int32} {st : List cf_AV} {w : cf_Wd} {Q : cf_Rs → Prop} : cf_wp T_S_isSuspect (15, [l0, some (.inl x)], st, w) Q ↔ cf_wp T_S_isSuspect (16, [l0, some (.inl x)], .inl x :: st, w) Q := cf_w1 rfl
theorem r_S_isSuspect_16 {l0 l1 : Option cf_AV} {x y : Int32} {st : List cf_AV} {w : cf_Wd} {Q : cf_Rs → Prop} : cf_wp T_S_isSuspect (16, [l0, l1], .inl y :: .inl x :: st, w) Q ↔ cf_wp T_S_isSuspect (17, [l0, l1], .inl (x >>> (y &&& 31)) :: st, w) Q := cf_w1 rfl
theorem r_S_isSuspect_17 {l0 l1 : Option cf_AV} {st : List cf_AV} {w : cf_Wd} {Q : cf_Rs → Prop} : cf_wp T_S_isSuspect (17, [l0, l1], st, w) Q ↔ cf_wp T_S_isSuspect (18, [l0, l1], .inl 1 :: st, w) Q := cf_w1 rfl
theorem r_S_isSuspect_18 {l0 l1 : Option cf_AV} {x y : Int32} {st : List cf_AV} {w : cf_Wd} {Q : cf_Rs → Prop} : cf_wp T_S_isSuspect (18, [l0, l1], .inl y :: .inl x :: st, w) Q ↔ cf_wp T_S_isSuspect (19, [l0, l1], .inl (x &&& y) :: st, w) Q := cf_w1 rfl
theorem r_S_isSuspect_19 {l0 l1 : Option cf_AV} {x : Int32} {st : List cf_AV} {w : cf_Wd} {Q : cf_Rs → Prop} : cf_wp T_S_isSuspect (19, [l0, l1], .inl x :: st, w) Q ↔ (if x = 0 then cf_wp T_S_isSuspect (26, [l0, l1], st, w) Q else cf_wp T_S_isSuspect (22, [l0, l1], st, w) Q) := cf_wi rfl
theorem r_S_isSuspect_22 {l0 l1 : Option cf_AV} {st : List cf_AV} {w : cf_Wd} {Q : cf_Rs → Prop} : cf_wp T_S_isSuspect (22, [l0, l1], st, w) Q ↔ cf_wp T_S_isSuspect (23, [l0, l1], .inl 1 :: st, w) Q := cf_w1 rfl
theorem r_S_isSuspect_23 {l0 l1 : Option cf_AV} {st : List cf_AV} {w : cf_Wd} {Q : cf_Rs → Prop} : cf_wp T_S_isSuspect (23, [l0, l1], st, w) Q ↔ cf_wp T_S_isSuspect (27, [l0, l1], st, w) Q := cf_w1 rfl
theorem r_S_isSuspect_26 {l0 l1 : Option cf_AV} {st : List cf_AV} {w : cf_Wd} {Q : cf_Rs → Prop} : cf_wp T_S_isSuspect (26, [l0, l1], st, w) Q ↔ cf_wp T_S_isSuspect (27, [l0, l1], .inl 0 :: st, w) Q := cf_w1 rfl
theorem r_S_isSuspect_27 {l0 l1 : Option cf_AV} {x : Int32} {w : cf_Wd} {P : Int32 → cf_Wd → Prop} : cf_wp T_S_isSuspect (27, [l0, l1], [.inl x], w) (cf_qb P) ↔ ((x = 0 ∨ x = 1) ∧ P x w) := Iff.trans (cf_wr (q := (some (.inl x), w)) rfl) Iff.rfl
theorem e_S_isSuspect {a1 : Int32} {w : cf_Wd} {P : Int32 → cf_Wd → Prop} (h : cf_wp T_S_isSuspect (0, [some (.inr 10), some (.inl a1)], [], w) (cf_qb P)) : ∃ x w1, F_S_isSuspect [.inr 10, .inl a1] w = some (some (.inl x), w1) ∧ P x w1 := cf_eb rfl (Nat.le_of_ble_eq_true rfl) h
noncomputable def T_S_weightOf (pc : Nat) : cf_Rw := bif Nat.ble pc 8 then
 (bif Nat.ble pc 1 then
  (bif Nat.ble pc 0 then
   (bif Nat.beq pc 0 then cf_aload 0 1 else cf_stuck)
   else
   (bif Nat.beq pc 1 then cf_get 3 0 4 else cf_stuck))
  else
  (bif Nat.ble pc 4 then
   (bif Nat.beq pc 4 then cf_get 0 1 7 else cf_stuck)
   else
   (bif Nat.ble pc 7 then
    (bif Nat.beq pc 7 then cf_iload 1 8 else cf_stuck)
    else
    (bif Nat.beq pc 8 then cf_iald 9 else cf_stuck))))
 else
 (bif Nat.ble pc 10 then
  (bif Nat.ble pc 9 then
   (bif Nat.beq pc 9 then cf_aload 0 10 else cf_stuck)
   else
   (bif Nat.beq pc 10 then cf_get 3 12 13 else cf_stuck))
  else
  (bif Nat.ble pc 13 then
   (bif Nat.beq pc 13 then cf_bin (fun x y => x &&& y) 14 else cf_stuck)
   else
   (bif Nat.ble pc 14 then
    (bif Nat.beq pc 14 then cf_call 1 F_J_bitCount 17 else cf_stuck)
    else
    (bif Nat.beq pc 17 then cf_iret else cf_stuck))))
noncomputable def F_S_weightOf : List cf_AV → cf_Wd → Option cf_Rs := cf_F T_S_weightOf 2 (some .int) (cf_shV 10 1)
theorem r_S_weightOf_0 {l1 : Option cf_AV} {k : Nat} {st : List cf_AV} {w : cf_Wd} {Q : cf_Rs → Prop} : cf_wp T_S_weightOf (0, [some (.inr k), l1], st, w) Q ↔ cf_wp T_S_weightOf (1, [some (.inr k), l1], .inr k :: st, w) Q := cf_w1 rfl
theorem r_S_weightOf_1 {l0 l1 : Option cf_AV} {st : List cf_AV} {w : cf_Wd} {Q : cf_Rs → Prop} : cf_wp T_S_weightOf (1, [l0, l1], .inr 10 :: st, w) Q ↔ cf_wp T_S_weightOf (4, [l0, l1], .inr 1 :: st, w) Q := cf_w1 rfl
theorem r_S_weightOf_4 {l0 l1 : Option cf_AV} {st : List cf_AV} {w : cf_Wd} {Q : cf_Rs → Prop} : cf_wp T_S_weightOf (4, [l0, l1], .inr 1 :: st, w) Q ↔ cf_wp T_S_weightOf (7, [l0, l1], .inr 3 :: st, w) Q := cf_w1 rfl
theorem r_S_weightOf_7 {l0 : Option cf_AV} {x : Int32} {st : List cf_AV} {w : cf_Wd} {Q : cf_Rs → Prop} : cf_wp T_S_weightOf (7, [l0, some (.inl x)], st, w) Q ↔ cf_wp T_S_weightOf (8, [l0, some (.inl x)], .inl x :: st, w) Q := cf_w1 rfl
theorem r_S_weightOf_8 {l0 l1 : Option cf_AV} {i : Int32} {st : List cf_AV} {w : cf_Wd} {Q : cf_Rs → Prop} : cf_wp T_S_weightOf (8, [l0, l1], .inl i :: .inr 3 :: st, w) Q ↔ (cf_in i 14 = true ∧ cf_wp T_S_weightOf (9, [l0, l1], .inl (w 3 i.toNatClampNeg) :: st, w) Q) := cf_wg rfl
theorem r_S_weightOf_9 {l1 : Option cf_AV} {k : Nat} {st : List cf_AV} {w : cf_Wd} {Q : cf_Rs → Prop} : cf_wp T_S_weightOf (9, [some (.inr k), l1], st, w) Q ↔ cf_wp T_S_weightOf (10, [some (.inr k), l1], .inr k :: st, w) Q := cf_w1 rfl
theorem r_S_weightOf_10 {l0 l1 : Option cf_AV} {st : List cf_AV} {w : cf_Wd} {Q : cf_Rs → Prop} : cf_wp T_S_weightOf (10, [l0, l1], .inr 10 :: st, w) Q ↔ cf_wp T_S_weightOf (13, [l0, l1], .inl (w 10 12) :: st, w) Q := cf_w1 rfl
theorem r_S_weightOf_13 {l0 l1 : Option cf_AV} {x y : Int32} {st : List cf_AV} {w : cf_Wd} {Q : cf_Rs → Prop} : cf_wp T_S_weightOf (13, [l0, l1], .inl y :: .inl x :: st, w) Q ↔ cf_wp T_S_weightOf (14, [l0, l1], .inl (x &&& y) :: st, w) Q := cf_w1 rfl
theorem r_S_weightOf_14 {l0 l1 : Option cf_AV} {a0 : Int32} {w : cf_Wd} {Q : cf_Rs → Prop} : cf_wp T_S_weightOf (14, [l0, l1], [.inl a0], w) Q ↔ ∃ x w1, F_J_bitCount [.inl a0] w = some (some (.inl x), w1) ∧ cf_wp T_S_weightOf (17, [l0, l1], [.inl x], w1) Q := cf_wci (n := 1) (F := F_J_bitCount) (nx := 17) rfl rfl cf_F_i
theorem c_S_weightOf_14 {l0 l1 : Option cf_AV} {a0 : Int32} {x1 : Int32} {w1 : cf_Wd} {w : cf_Wd} {Q : cf_Rs → Prop} (hs : F_J_bitCount [.inl a0] w = some (some (.inl x1), w1)) : cf_wp T_S_weightOf (14, [l0, l1], [.inl a0], w) Q ↔ cf_wp T_S_weightOf (17, [l0, l1], [.inl x1], w1) Q := r_S_weightOf_14.trans (cf_xi hs)
theorem r_S_weightOf_17 {l0 l1 : Option cf_AV} {x : Int32} {w : cf_Wd} {P : Int32 → cf_Wd → Prop} : cf_wp T_S_weightOf (17, [l0, l1], [.inl x], w) (cf_qi P) ↔ P x w := Iff.trans (cf_wr (q := (some (.inl x), w)) rfl) Iff.rfl
theorem e_S_weightOf {a1 : Int32} {w : cf_Wd} {P : Int32 → cf_Wd → Prop} (h : cf_wp T_S_weightOf (0, [some (.inr 10), some (.inl a1)], [], w) (cf_qi P)) : ∃ x w1, F_S_weightOf [.inr 10, .inl a1] w = some (some (.inl x), w1) ∧ P x w1 := cf_ei rfl (Nat.le_of_ble_eq_true rfl) h
noncomputable def T_S_bestHalver (pc : Nat) : cf_Rw := bif Nat.ble pc 37 then
 (bif Nat.ble pc 13 then
  (bif Nat.ble pc 8 then
   (bif Nat.ble pc 1 then
    (bif Nat.ble pc 0 then
     (bif Nat.beq pc 0 then cf_aload 0 1 else cf_stuck)
     else
     (bif Nat.beq pc 1 then cf_get 3 12 4 else cf_stuck))
    else
    (bif Nat.ble pc 4 then
     (bif Nat.beq pc 4 then cf_call 1 F_J_bitCount 7 else cf_stuck)
     else
     (bif Nat.ble pc 7 then
      (bif Nat.beq pc 7 then cf_istore 1 8 else cf_stuck)
      else
      (bif Nat.beq pc 8 then cf_const (-1) 9 else cf_stuck))))
   else
   (bif Nat.ble pc 10 then
    (bif Nat.ble pc 9 then
     (bif Nat.beq pc 9 then cf_istore 2 10 else cf_stuck)
     else
     (bif Nat.beq pc 10 then cf_const (-1) 11 else cf_stuck))
    else
    (bif Nat.ble pc 11 then
     (bif Nat.beq pc 11 then cf_istore 3 12 else cf_stuck)
     else
     (bif Nat.ble pc 12 then
      (bif Nat.beq pc 12 then cf_const 0 13 else cf_stuck)
      else
      (bif Nat.beq pc 13 then cf_istore 4 15 else cf_stuck)))))
  else
  (bif Nat.ble pc 23 then
   (bif Nat.ble pc 17 then
    (bif Nat.ble pc 15 then
     (bif Nat.beq pc 15 then cf_iload 4 17 else cf_stuck)
     else
     (bif Nat.beq pc 17 then cf_const 14 19 else cf_stuck))
    else
    (bif Nat.ble pc 19 then
     (bif Nat.beq pc 19 then cf_icge 78 22 else cf_stuck)
     else
     (bif Nat.ble pc 22 then
      (bif Nat.beq pc 22 then cf_aload 0 23 else cf_stuck)
      else
      (bif Nat.beq pc 23 then cf_iload 4 25 else cf_stuck))))
   else
   (bif Nat.ble pc 31 then
    (bif Nat.ble pc 25 then
     (bif Nat.beq pc 25 then cf_call 2 F_S_isSuspect 28 else cf_stuck)
     else
     (bif Nat.ble pc 28 then
      (bif Nat.beq pc 28 then cf_ifeq 72 31 else cf_stuck)
      else
      (bif Nat.beq pc 31 then cf_aload 0 32 else cf_stuck)))
    else
    (bif Nat.ble pc 32 then
     (bif Nat.beq pc 32 then cf_get 3 4 35 else cf_stuck)
     else
     (bif Nat.ble pc 35 then
      (bif Nat.beq pc 35 then cf_iload 4 37 else cf_stuck)
      else
      (bif Nat.beq pc 37 then cf_iald 38 else cf_stuck))))))
 else
 (bif Nat.ble pc 58 then
  (bif Nat.ble pc 47 then
   (bif Nat.ble pc 41 then
    (bif Nat.ble pc 38 then
     (bif Nat.beq pc 38 then cf_ifne 72 41 else cf_stuck)
     else
     (bif Nat.beq pc 41 then cf_aload 0 42 else cf_stuck))
    else
    (bif Nat.ble pc 42 then
     (bif Nat.beq pc 42 then cf_iload 4 44 else cf_stuck)
     else
     (bif Nat.ble pc 44 then
      (bif Nat.beq pc 44 then cf_call 2 F_S_weightOf 47 else cf_stuck)
      else
      (bif Nat.beq pc 47 then cf_istore 5 49 else cf_stuck))))
   else
   (bif Nat.ble pc 52 then
    (bif Nat.ble pc 49 then
     (bif Nat.beq pc 49 then cf_iload 5 51 else cf_stuck)
     else
     (bif Nat.ble pc 51 then
      (bif Nat.beq pc 51 then cf_iload 1 52 else cf_stuck)
      else
      (bif Nat.beq pc 52 then cf_iload 5 54 else cf_stuck)))
    else
    (bif Nat.ble pc 54 then
     (bif Nat.beq pc 54 then cf_bin (fun x y => x - y) 55 else cf_stuck)
     else
     (bif Nat.ble pc 55 then
      (bif Nat.beq pc 55 then cf_mmn 58 else cf_stuck)
      else
      (bif Nat.beq pc 58 then cf_istore 6 60 else cf_stuck)))))
  else
  (bif Nat.ble pc 68 then
   (bif Nat.ble pc 62 then
    (bif Nat.ble pc 60 then
     (bif Nat.beq pc 60 then cf_iload 6 62 else cf_stuck)
     else
     (bif Nat.beq pc 62 then cf_iload 3 63 else cf_stuck))
    else
    (bif Nat.ble pc 63 then
     (bif Nat.beq pc 63 then cf_icle 72 66 else cf_stuck)
     else
     (bif Nat.ble pc 66 then
      (bif Nat.beq pc 66 then cf_iload 4 68 else cf_stuck)
      else
      (bif Nat.beq pc 68 then cf_istore 2 69 else cf_stuck))))
   else
   (bif Nat.ble pc 72 then
    (bif Nat.ble pc 69 then
     (bif Nat.beq pc 69 then cf_iload 6 71 else cf_stuck)
     else
     (bif Nat.ble pc 71 then
      (bif Nat.beq pc 71 then cf_istore 3 72 else cf_stuck)
      else
      (bif Nat.beq pc 72 then cf_iinc 4 1 75 else cf_stuck)))
    else
    (bif Nat.ble pc 75 then
     (bif Nat.beq pc 75 then cf_goto 15 else cf_stuck)
     else
     (bif Nat.ble pc 78 then
      (bif Nat.beq pc 78 then cf_iload 2 79 else cf_stuck)
      else
      (bif Nat.beq pc 79 then cf_iret else cf_stuck))))))
noncomputable def F_S_bestHalver : List cf_AV → cf_Wd → Option cf_Rs := cf_F T_S_bestHalver 7 (some .int) (cf_shV 10 0)
theorem r_S_bestHalver_0 {l1 l2 l3 l4 l5 l6 : Option cf_AV} {k : Nat} {st : List cf_AV} {w : cf_Wd} {Q : cf_Rs → Prop} : cf_wp T_S_bestHalver (0, [some (.inr k), l1, l2, l3, l4, l5, l6], st, w) Q ↔ cf_wp T_S_bestHalver (1, [some (.inr k), l1, l2, l3, l4, l5, l6], .inr k :: st, w) Q := cf_w1 rfl
theorem r_S_bestHalver_1 {l0 l1 l2 l3 l4 l5 l6 : Option cf_AV} {st : List cf_AV} {w : cf_Wd} {Q : cf_Rs → Prop} : cf_wp T_S_bestHalver (1, [l0, l1, l2, l3, l4, l5, l6], .inr 10 :: st, w) Q ↔ cf_wp T_S_bestHalver (4, [l0, l1, l2, l3, l4, l5, l6], .inl (w 10 12) :: st, w) Q := cf_w1 rfl
theorem r_S_bestHalver_4 {l0 l1 l2 l3 l4 l5 l6 : Option cf_AV} {a0 : Int32} {w : cf_Wd} {Q : cf_Rs → Prop} : cf_wp T_S_bestHalver (4, [l0, l1, l2, l3, l4, l5, l6], [.inl a0], w) Q ↔ ∃ x w1, F_J_bitCount [.inl a0] w = some (some (.inl x), w1) ∧ cf_wp T_S_bestHalver (7, [l0, l1, l2, l3, l4, l5, l6], [.inl x], w1) Q := cf_wci (n := 1) (F := F_J_bitCount) (nx := 7) rfl rfl cf_F_i
theorem c_S_bestHalver_4 {l0 l1 l2 l3 l4 l5 l6 : Option cf_AV} {a0 : Int32} {x1 : Int32} {w1 : cf_Wd} {w : cf_Wd} {Q : cf_Rs → Prop} (hs : F_J_bitCount [.inl a0] w = some (some (.inl x1), w1)) : cf_wp T_S_bestHalver (4, [l0, l1, l2, l3, l4, l5, l6], [.inl a0], w) Q ↔ cf_wp T_S_bestHalver (7, [l0, l1, l2, l3, l4, l5, l6], [.inl x1], w1) Q := r_S_bestHalver_4.trans (cf_xi hs)
theorem r_S_bestHalver_7 {l0 l1 l2 l3 l4 l5 l6 : Option cf_AV} {x : Int32} {st : List cf_AV} {w : cf_Wd} {Q : cf_Rs → Prop} : cf_wp T_S_bestHalver (7, [l0, l1, l2, l3, l4, l5, l6], .inl x :: st, w) Q ↔ cf_wp T_S_bestHalver (8, [l0, some (.inl x), l2, l3, l4, l5, l6], st, w) Q := cf_w1 rfl
theorem r_S_bestHalver_8 {l0 l1 l2 l3 l4 l5 l6 : Option cf_AV} {st : List cf_AV} {w : cf_Wd} {Q : cf_Rs → Prop} : cf_wp T_S_bestHalver (8, [l0, l1, l2, l3, l4, l5, l6], st, w) Q ↔ cf_wp T_S_bestHalver (9, [l0, l1, l2, l3, l4, l5, l6], .inl (-1) :: st, w) Q := cf_w1 rfl
theorem r_S_bestHalver_9 {l0 l1 l2 l3 l4 l5 l6 : Option cf_AV} {x : Int32} {st : List cf_AV} {w : cf_Wd} {Q : cf_Rs → Prop} : cf_wp T_S_bestHalver (9, [l0, l1, l2, l3, l4, l5, l6], .inl x :: st, w) Q ↔ cf_wp T_S_bestHalver (10, [l0, l1, some (.inl x), l3, l4, l5, l6], st, w) Q := cf_w1 rfl
theorem r_S_bestHalver_10 {l0 l1 l2 l3 l4 l5 l6 : Option cf_AV} {st : List cf_AV} {w : cf_Wd} {Q : cf_Rs → Prop} : cf_wp T_S_bestHalver (10, [l0, l1, l2, l3, l4, l5, l6], st, w) Q ↔ cf_wp T_S_bestHalver (11, [l0, l1, l2, l3, l4, l5, l6], .inl (-1) :: st, w) Q := cf_w1 rfl
theorem r_S_bestHalver_11 {l0 l1 l2 l3 l4 l5 l6 : Option cf_AV} {x : Int32} {st : List cf_AV} {w : cf_Wd} {Q : cf_Rs → Prop} : cf_wp T_S_bestHalver (11, [l0, l1, l2, l3, l4, l5, l6], .inl x :: st, w) Q ↔ cf_wp T_S_bestHalver (12, [l0, l1, l2, some (.inl x), l4, l5, l6], st, w) Q := cf_w1 rfl
theorem r_S_bestHalver_12 {l0 l1 l2 l3 l4 l5 l6 : Option cf_AV} {st : List cf_AV} {w : cf_Wd} {Q : cf_Rs → Prop} : cf_wp T_S_bestHalver (12, [l0, l1, l2, l3, l4, l5, l6], st, w) Q ↔ cf_wp T_S_bestHalver (13, [l0, l1, l2, l3, l4, l5, l6], .inl 0 :: st, w) Q := cf_w1 rfl
theorem r_S_bestHalver_13 {l0 l1 l2 l3 l4 l5 l6 : Option cf_AV} {x : Int32} {st : List cf_AV} {w : cf_Wd} {Q : cf_Rs → Prop} : cf_wp T_S_bestHalver (13, [l0, l1, l2, l3, l4, l5, l6], .inl x :: st, w) Q ↔ cf_wp T_S_bestHalver (15, [l0, l1, l2, l3, some (.inl x), l5, l6], st, w) Q := cf_w1 rfl
theorem r_S_bestHalver_15 {l0 l1 l2 l3 l5 l6 : Option cf_AV} {x : Int32} {st : List cf_AV} {w : cf_Wd} {Q : cf_Rs → Prop} : cf_wp T_S_bestHalver (15, [l0, l1, l2, l3, some (.inl x), l5, l6], st, w) Q ↔ cf_wp T_S_bestHalver (17, [l0, l1, l2, l3, some (.inl x), l5, l6], .inl x :: st, w) Q := cf_w1 rfl
theorem r_S_bestHalver_17 {l0 l1 l2 l3 l4 l5 l6 : Option cf_AV} {st : List cf_AV} {w : cf_Wd} {Q : cf_Rs → Prop} : cf_wp T_S_bestHalver (17, [l0, l1, l2, l3, l4, l5, l6], st, w) Q ↔ cf_wp T_S_bestHalver (19, [l0, l1, l2, l3, l4, l5, l6], .inl 14 :: st, w) Q := cf_w1 rfl
theorem r_S_bestHalver_19 {l0 l1 l2 l3 l4 l5 l6 : Option cf_AV} {x y : Int32} {st : List cf_AV} {w : cf_Wd} {Q : cf_Rs → Prop} : cf_wp T_S_bestHalver (19, [l0, l1, l2, l3, l4, l5, l6], .inl y :: .inl x :: st, w) Q ↔ (if y ≤ x then cf_wp T_S_bestHalver (78, [l0, l1, l2, l3, l4, l5, l6], st, w) Q else cf_wp T_S_bestHalver (22, [l0, l1, l2, l3, l4, l5, l6], st, w) Q) := cf_wi rfl
theorem r_S_bestHalver_22 {l1 l2 l3 l4 l5 l6 : Option cf_AV} {k : Nat} {st : List cf_AV} {w : cf_Wd} {Q : cf_Rs → Prop} : cf_wp T_S_bestHalver (22, [some (.inr k), l1, l2, l3, l4, l5, l6], st, w) Q ↔ cf_wp T_S_bestHalver (23, [some (.inr k), l1, l2, l3, l4, l5, l6], .inr k :: st, w) Q := cf_w1 rfl
theorem r_S_bestHalver_23 {l0 l1 l2 l3 l5 l6 : Option cf_AV} {x : Int32} {st : List cf_AV} {w : cf_Wd} {Q : cf_Rs → Prop} : cf_wp T_S_bestHalver (23, [l0, l1, l2, l3, some (.inl x), l5, l6], st, w) Q ↔ cf_wp T_S_bestHalver (25, [l0, l1, l2, l3, some (.inl x), l5, l6], .inl x :: st, w) Q := cf_w1 rfl
theorem r_S_bestHalver_25 {l0 l1 l2 l3 l4 l5 l6 : Option cf_AV} {a1 : Int32} {w : cf_Wd} {Q : cf_Rs → Prop} : cf_wp T_S_bestHalver (25, [l0, l1, l2, l3, l4, l5, l6], [.inl a1, .inr 10], w) Q ↔ ∃ x w1, F_S_isSuspect [.inr 10, .inl a1] w = some (some (.inl x), w1) ∧ cf_wp T_S_bestHalver (28, [l0, l1, l2, l3, l4, l5, l6], [.inl x], w1) Q := cf_wci (n := 2) (F := F_S_isSuspect) (nx := 28) rfl rfl cf_F_b
theorem c_S_bestHalver_25 {l0 l1 l2 l3 l4 l5 l6 : Option cf_AV} {a1 : Int32} {x1 : Int32} {w1 : cf_Wd} {w : cf_Wd} {Q : cf_Rs → Prop} (hs : F_S_isSuspect [.inr 10, .inl a1] w = some (some (.inl x1), w1)) : cf_wp T_S_bestHalver (25, [l0, l1, l2, l3, l4, l5, l6], [.inl a1, .inr 10], w) Q ↔ cf_wp T_S_bestHalver (28, [l0, l1, l2, l3, l4, l5, l6], [.inl x1], w1) Q := r_S_bestHalver_25.trans (cf_xi hs)
theorem r_S_bestHalver_28 {l0 l1 l2 l3 l4 l5 l6 : Option cf_AV} {x : Int32} {st : List cf_AV} {w : cf_Wd} {Q : cf_Rs → Prop} : cf_wp T_S_bestHalver (28, [l0, l1, l2, l3, l4, l5, l6], .inl x :: st, w) Q ↔ (if x = 0 then cf_wp T_S_bestHalver (72, [l0, l1, l2, l3, l4, l5, l6], st, w) Q else cf_wp T_S_bestHalver (31, [l0, l1, l2, l3, l4, l5, l6], st, w) Q) := cf_wi rfl
theorem r_S_bestHalver_31 {l1 l2 l3 l4 l5 l6 : Option cf_AV} {k : Nat} {st : List cf_AV} {w : cf_Wd} {Q : cf_Rs → Prop} : cf_wp T_S_bestHalver (31, [some (.inr k), l1, l2, l3, l4, l5, l6], st, w) Q ↔ cf_wp T_S_bestHalver (32, [some (.inr k), l1, l2, l3, l4, l5, l6], .inr k :: st, w) Q := cf_w1 rfl
theorem r_S_bestHalver_32 {l0 l1 l2 l3 l4 l5 l6 : Option cf_AV} {st : List cf_AV} {w : cf_Wd} {Q : cf_Rs → Prop} : cf_wp T_S_bestHalver (32, [l0, l1, l2, l3, l4, l5, l6], .inr 10 :: st, w) Q ↔ cf_wp T_S_bestHalver (35, [l0, l1, l2, l3, l4, l5, l6], .inr 14 :: st, w) Q := cf_w1 rfl
theorem r_S_bestHalver_35 {l0 l1 l2 l3 l5 l6 : Option cf_AV} {x : Int32} {st : List cf_AV} {w : cf_Wd} {Q : cf_Rs → Prop} : cf_wp T_S_bestHalver (35, [l0, l1, l2, l3, some (.inl x), l5, l6], st, w) Q ↔ cf_wp T_S_bestHalver (37, [l0, l1, l2, l3, some (.inl x), l5, l6], .inl x :: st, w) Q := cf_w1 rfl
theorem r_S_bestHalver_37 {l0 l1 l2 l3 l4 l5 l6 : Option cf_AV} {i : Int32} {st : List cf_AV} {w : cf_Wd} {Q : cf_Rs → Prop} : cf_wp T_S_bestHalver (37, [l0, l1, l2, l3, l4, l5, l6], .inl i :: .inr 14 :: st, w) Q ↔ (cf_in i 14 = true ∧ cf_wp T_S_bestHalver (38, [l0, l1, l2, l3, l4, l5, l6], .inl (w 14 i.toNatClampNeg) :: st, w) Q) := cf_wg rfl
theorem r_S_bestHalver_38 {l0 l1 l2 l3 l4 l5 l6 : Option cf_AV} {x : Int32} {st : List cf_AV} {w : cf_Wd} {Q : cf_Rs → Prop} : cf_wp T_S_bestHalver (38, [l0, l1, l2, l3, l4, l5, l6], .inl x :: st, w) Q ↔ (if ¬ x = 0 then cf_wp T_S_bestHalver (72, [l0, l1, l2, l3, l4, l5, l6], st, w) Q else cf_wp T_S_bestHalver (41, [l0, l1, l2, l3, l4, l5, l6], st, w) Q) := cf_wi rfl
theorem r_S_bestHalver_41 {l1 l2 l3 l4 l5 l6 : Option cf_AV} {k : Nat} {st : List cf_AV} {w : cf_Wd} {Q : cf_Rs → Prop} : cf_wp T_S_bestHalver (41, [some (.inr k), l1, l2, l3, l4, l5, l6], st, w) Q ↔ cf_wp T_S_bestHalver (42, [some (.inr k), l1, l2, l3, l4, l5, l6], .inr k :: st, w) Q := cf_w1 rfl
theorem r_S_bestHalver_42 {l0 l1 l2 l3 l5 l6 : Option cf_AV} {x : Int32} {st : List cf_AV} {w : cf_Wd} {Q : cf_Rs → Prop} : cf_wp T_S_bestHalver (42, [l0, l1, l2, l3, some (.inl x), l5, l6], st, w) Q ↔ cf_wp T_S_bestHalver (44, [l0, l1, l2, l3, some (.inl x), l5, l6], .inl x :: st, w) Q := cf_w1 rfl
theorem r_S_bestHalver_44 {l0 l1 l2 l3 l4 l5 l6 : Option cf_AV} {a1 : Int32} {w : cf_Wd} {Q : cf_Rs → Prop} : cf_wp T_S_bestHalver (44, [l0, l1, l2, l3, l4, l5, l6], [.inl a1, .inr 10], w) Q ↔ ∃ x w1, F_S_weightOf [.inr 10, .inl a1] w = some (some (.inl x), w1) ∧ cf_wp T_S_bestHalver (47, [l0, l1, l2, l3, l4, l5, l6], [.inl x], w1) Q := cf_wci (n := 2) (F := F_S_weightOf) (nx := 47) rfl rfl cf_F_i
theorem c_S_bestHalver_44 {l0 l1 l2 l3 l4 l5 l6 : Option cf_AV} {a1 : Int32} {x1 : Int32} {w1 : cf_Wd} {w : cf_Wd} {Q : cf_Rs → Prop} (hs : F_S_weightOf [.inr 10, .inl a1] w = some (some (.inl x1), w1)) : cf_wp T_S_bestHalver (44, [l0, l1, l2, l3, l4, l5, l6], [.inl a1, .inr 10], w) Q ↔ cf_wp T_S_bestHalver (47, [l0, l1, l2, l3, l4, l5, l6], [.inl x1], w1) Q := r_S_bestHalver_44.trans (cf_xi hs)
theorem r_S_bestHalver_47 {l0 l1 l2 l3 l4 l5 l6 : Option cf_AV} {x : Int32} {st : List cf_AV} {w : cf_Wd} {Q : cf_Rs → Prop} : cf_wp T_S_bestHalver (47, [l0, l1, l2, l3, l4, l5, l6], .inl x :: st, w) Q ↔ cf_wp T_S_bestHalver (49, [l0, l1, l2, l3, l4, some (.inl x), l6], st, w) Q := cf_w1 rfl
theorem r_S_bestHalver_49 {l0 l1 l2 l3 l4 l6 : Option cf_AV} {x : Int32} {st : List cf_AV} {w : cf_Wd} {Q : cf_Rs → Prop} : cf_wp T_S_bestHalver (49, [l0, l1, l2, l3, l4, some (.inl x), l6], st, w) Q ↔ cf_wp T_S_bestHalver (51, [l0, l1, l2, l3, l4, some (.inl x), l6], .inl x :: st, w) Q := cf_w1 rfl
theorem r_S_bestHalver_51 {l0 l2 l3 l4 l5 l6 : Option cf_AV} {x : Int32} {st : List cf_AV} {w : cf_Wd} {Q : cf_Rs → Prop} : cf_wp T_S_bestHalver (51, [l0, some (.inl x), l2, l3, l4, l5, l6], st, w) Q ↔ cf_wp T_S_bestHalver (52, [l0, some (.inl x), l2, l3, l4, l5, l6], .inl x :: st, w) Q := cf_w1 rfl
theorem r_S_bestHalver_52 {l0 l1 l2 l3 l4 l6 : Option cf_AV} {x : Int32} {st : List cf_AV} {w : cf_Wd} {Q : cf_Rs → Prop} : cf_wp T_S_bestHalver (52, [l0, l1, l2, l3, l4, some (.inl x), l6], st, w) Q ↔ cf_wp T_S_bestHalver (54, [l0, l1, l2, l3, l4, some (.inl x), l6], .inl x :: st, w) Q := cf_w1 rfl
theorem r_S_bestHalver_54 {l0 l1 l2 l3 l4 l5 l6 : Option cf_AV} {x y : Int32} {st : List cf_AV} {w : cf_Wd} {Q : cf_Rs → Prop} : cf_wp T_S_bestHalver (54, [l0, l1, l2, l3, l4, l5, l6], .inl y :: .inl x :: st, w) Q ↔ cf_wp T_S_bestHalver (55, [l0, l1, l2, l3, l4, l5, l6], .inl (x - y) :: st, w) Q := cf_w1 rfl
theorem r_S_bestHalver_55 {l0 l1 l2 l3 l4 l5 l6 : Option cf_AV} {x y : Int32} {w : cf_Wd} {Q : cf_Rs → Prop} : cf_wp T_S_bestHalver (55, [l0, l1, l2, l3, l4, l5, l6], [.inl y, .inl x], w) Q ↔ cf_wp T_S_bestHalver (58, [l0, l1, l2, l3, l4, l5, l6], [.inl (if y < x then y else x)], w) Q := cf_w1 rfl
theorem r_S_bestHalver_58 {l0 l1 l2 l3 l4 l5 l6 : Option cf_AV} {x : Int32} {st : List cf_AV} {w : cf_Wd} {Q : cf_Rs → Prop} : cf_wp T_S_bestHalver (58, [l0, l1, l2, l3, l4, l5, l6], .inl x :: st, w) Q ↔ cf_wp T_S_bestHalver (60, [l0, l1, l2, l3, l4, l5, some (.inl x)], st, w) Q := cf_w1 rfl
theorem r_S_bestHalver_60 {l0 l1 l2 l3 l4 l5 : Option cf_AV} {x : Int32} {st : List cf_AV} {w : cf_Wd} {Q : cf_Rs → Prop} : cf_wp T_S_bestHalver (60, [l0, l1, l2, l3, l4, l5, some (.inl x)], st, w) Q ↔ cf_wp T_S_bestHalver (62, [l0, l1, l2, l3, l4, l5, some (.inl x)], .inl x :: st, w) Q := cf_w1 rfl
theorem r_S_bestHalver_62 {l0 l1 l2 l4 l5 l6 : Option cf_AV} {x : Int32} {st : List cf_AV} {w : cf_Wd} {Q : cf_Rs → Prop} : cf_wp T_S_bestHalver (62, [l0, l1, l2, some (.inl x), l4, l5, l6], st, w) Q ↔ cf_wp T_S_bestHalver (63, [l0, l1, l2, some (.inl x), l4, l5, l6], .inl x :: st, w) Q := cf_w1 rfl
theorem r_S_bestHalver_63 {l0 l1 l2 l3 l4 l5 l6 : Option cf_AV} {x y : Int32} {st : List cf_AV} {w : cf_Wd} {Q : cf_Rs → Prop} : cf_wp T_S_bestHalver (63, [l0, l1, l2, l3, l4, l5, l6], .inl y :: .inl x :: st, w) Q ↔ (if x ≤ y then cf_wp T_S_bestHalver (72, [l0, l1, l2, l3, l4, l5, l6], st, w) Q else cf_wp T_S_bestHalver (66, [l0, l1, l2, l3, l4, l5, l6], st, w) Q) := cf_wi rfl
theorem r_S_bestHalver_66 {l0 l1 l2 l3 l5 l6 : Option cf_AV} {x : Int32} {st : List cf_AV} {w : cf_Wd} {Q : cf_Rs → Prop} : cf_wp T_S_bestHalver (66, [l0, l1, l2, l3, some (.inl x), l5, l6], st, w) Q ↔ cf_wp T_S_bestHalver (68, [l0, l1, l2, l3, some (.inl x), l5, l6], .inl x :: st, w) Q := cf_w1 rfl
theorem r_S_bestHalver_68 {l0 l1 l2 l3 l4 l5 l6 : Option cf_AV} {x : Int32} {st : List cf_AV} {w : cf_Wd} {Q : cf_Rs → Prop} : cf_wp T_S_bestHalver (68, [l0, l1, l2, l3, l4, l5, l6], .inl x :: st, w) Q ↔ cf_wp T_S_bestHalver (69, [l0, l1, some (.inl x), l3, l4, l5, l6], st, w) Q := cf_w1 rfl
theorem r_S_bestHalver_69 {l0 l1 l2 l3 l4 l5 : Option cf_AV} {x : Int32} {st : List cf_AV} {w : cf_Wd} {Q : cf_Rs → Prop} : cf_wp T_S_bestHalver (69, [l0, l1, l2, l3, l4, l5, some (.inl x)], st, w) Q ↔ cf_wp T_S_bestHalver (71, [l0, l1, l2, l3, l4, l5, some (.inl x)], .inl x :: st, w) Q := cf_w1 rfl
theorem r_S_bestHalver_71 {l0 l1 l2 l3 l4 l5 l6 : Option cf_AV} {x : Int32} {st : List cf_AV} {w : cf_Wd} {Q : cf_Rs → Prop} : cf_wp T_S_bestHalver (71, [l0, l1, l2, l3, l4, l5, l6], .inl x :: st, w) Q ↔ cf_wp T_S_bestHalver (72, [l0, l1, l2, some (.inl x), l4, l5, l6], st, w) Q := cf_w1 rfl
theorem r_S_bestHalver_72 {l0 l1 l2 l3 l5 l6 : Option cf_AV} {x : Int32} {st : List cf_AV} {w : cf_Wd} {Q : cf_Rs → Prop} : cf_wp T_S_bestHalver (72, [l0, l1, l2, l3, some (.inl x), l5, l6], st, w) Q ↔ cf_wp T_S_bestHalver (75, [l0, l1, l2, l3, some (.inl (x + 1)), l5, l6], st, w) Q := cf_w1 rfl
theorem r_S_bestHalver_75 {l0 l1 l2 l3 l4 l5 l6 : Option cf_AV} {st : List cf_AV} {w : cf_Wd} {Q : cf_Rs → Prop} : cf_wp T_S_bestHalver (75, [l0, l1, l2, l3, l4, l5, l6], st, w) Q ↔ cf_wp T_S_bestHalver (15, [l0, l1, l2, l3, l4, l5, l6], st, w) Q := cf_w1 rfl
theorem r_S_bestHalver_78 {l0 l1 l3 l4 l5 l6 : Option cf_AV} {x : Int32} {st : List cf_AV} {w : cf_Wd} {Q : cf_Rs → Prop} : cf_wp T_S_bestHalver (78, [l0, l1, some (.inl x), l3, l4, l5, l6], st, w) Q ↔ cf_wp T_S_bestHalver (79, [l0, l1, some (.inl x), l3, l4, l5, l6], .inl x :: st, w) Q := cf_w1 rfl
theorem r_S_bestHalver_79 {l0 l1 l2 l3 l4 l5 l6 : Option cf_AV} {x : Int32} {w : cf_Wd} {P : Int32 → cf_Wd → Prop} : cf_wp T_S_bestHalver (79, [l0, l1, l2, l3, l4, l5, l6], [.inl x], w) (cf_qi P) ↔ P x w := Iff.trans (cf_wr (q := (some (.inl x), w)) rfl) Iff.rfl
theorem e_S_bestHalver {w : cf_Wd} {P : Int32 → cf_Wd → Prop} (h : cf_wp T_S_bestHalver (0, [some (.inr 10), none, none, none, none, none, none], [], w) (cf_qi P)) : ∃ x w1, F_S_bestHalver [.inr 10] w = some (some (.inl x), w1) ∧ P x w1 := cf_ei rfl (Nat.le_of_ble_eq_true rfl) h
noncomputable def T_S_planHalving (pc : Nat) : cf_Rw := bif Nat.ble pc 35 then
 (bif Nat.ble pc 17 then
  (bif Nat.ble pc 8 then
   (bif Nat.ble pc 1 then
    (bif Nat.ble pc 0 then
     (bif Nat.beq pc 0 then cf_aload 0 1 else cf_stuck)
     else
     (bif Nat.beq pc 1 then cf_aload 0 2 else cf_stuck))
    else
    (bif Nat.ble pc 2 then
     (bif Nat.beq pc 2 then cf_get 3 0 5 else cf_stuck)
     else
     (bif Nat.ble pc 5 then
      (bif Nat.beq pc 5 then cf_get 0 1 8 else cf_stuck)
      else
      (bif Nat.beq pc 8 then cf_aload 0 9 else cf_stuck))))
   else
   (bif Nat.ble pc 12 then
    (bif Nat.ble pc 9 then
     (bif Nat.beq pc 9 then cf_get 3 10 12 else cf_stuck)
     else
     (bif Nat.beq pc 12 then cf_iald 13 else cf_stuck))
    else
    (bif Nat.ble pc 13 then
     (bif Nat.beq pc 13 then cf_aload 0 14 else cf_stuck)
     else
     (bif Nat.ble pc 14 then
      (bif Nat.beq pc 14 then cf_get 3 11 17 else cf_stuck)
      else
      (bif Nat.beq pc 17 then cf_const (-1) 18 else cf_stuck)))))
  else
  (bif Nat.ble pc 24 then
   (bif Nat.ble pc 19 then
    (bif Nat.ble pc 18 then
     (bif Nat.beq pc 18 then cf_bin (fun x y => x ^^^ y) 19 else cf_stuck)
     else
     (bif Nat.beq pc 19 then cf_bin (fun x y => x &&& y) 20 else cf_stuck))
    else
    (bif Nat.ble pc 20 then
     (bif Nat.beq pc 20 then cf_put 3 12 23 else cf_stuck)
     else
     (bif Nat.ble pc 23 then
      (bif Nat.beq pc 23 then cf_aload 0 24 else cf_stuck)
      else
      (bif Nat.beq pc 24 then cf_aload 0 25 else cf_stuck))))
   else
   (bif Nat.ble pc 28 then
    (bif Nat.ble pc 25 then
     (bif Nat.beq pc 25 then cf_call 1 F_S_bestHalver 28 else cf_stuck)
     else
     (bif Nat.beq pc 28 then cf_put 3 14 31 else cf_stuck))
    else
    (bif Nat.ble pc 31 then
     (bif Nat.beq pc 31 then cf_aload 0 32 else cf_stuck)
     else
     (bif Nat.ble pc 32 then
      (bif Nat.beq pc 32 then cf_get 3 14 35 else cf_stuck)
      else
      (bif Nat.beq pc 35 then cf_const (-1) 36 else cf_stuck))))))
 else
 (bif Nat.ble pc 53 then
  (bif Nat.ble pc 44 then
   (bif Nat.ble pc 39 then
    (bif Nat.ble pc 36 then
     (bif Nat.beq pc 36 then cf_iceq 40 39 else cf_stuck)
     else
     (bif Nat.beq pc 39 then cf_vret else cf_stuck))
    else
    (bif Nat.ble pc 40 then
     (bif Nat.beq pc 40 then cf_aload 0 41 else cf_stuck)
     else
     (bif Nat.ble pc 41 then
      (bif Nat.beq pc 41 then cf_get 3 12 44 else cf_stuck)
      else
      (bif Nat.beq pc 44 then cf_const 1 45 else cf_stuck))))
   else
   (bif Nat.ble pc 46 then
    (bif Nat.ble pc 45 then
     (bif Nat.beq pc 45 then cf_aload 0 46 else cf_stuck)
     else
     (bif Nat.beq pc 46 then cf_get 3 10 49 else cf_stuck))
    else
    (bif Nat.ble pc 49 then
     (bif Nat.beq pc 49 then cf_bin (fun x y => x <<< (y &&& 31)) 50 else cf_stuck)
     else
     (bif Nat.ble pc 50 then
      (bif Nat.beq pc 50 then cf_icne 69 53 else cf_stuck)
      else
      (bif Nat.beq pc 53 then cf_aload 0 54 else cf_stuck)))))
  else
  (bif Nat.ble pc 62 then
   (bif Nat.ble pc 55 then
    (bif Nat.ble pc 54 then
     (bif Nat.beq pc 54 then cf_aload 0 55 else cf_stuck)
     else
     (bif Nat.beq pc 55 then cf_get 3 10 58 else cf_stuck))
    else
    (bif Nat.ble pc 58 then
     (bif Nat.beq pc 58 then cf_put 3 13 61 else cf_stuck)
     else
     (bif Nat.ble pc 61 then
      (bif Nat.beq pc 61 then cf_aload 0 62 else cf_stuck)
      else
      (bif Nat.beq pc 62 then cf_const 3 63 else cf_stuck))))
   else
   (bif Nat.ble pc 69 then
    (bif Nat.ble pc 63 then
     (bif Nat.beq pc 63 then cf_put 3 6 66 else cf_stuck)
     else
     (bif Nat.ble pc 66 then
      (bif Nat.beq pc 66 then cf_goto 74 else cf_stuck)
      else
      (bif Nat.beq pc 69 then cf_aload 0 70 else cf_stuck)))
    else
    (bif Nat.ble pc 70 then
     (bif Nat.beq pc 70 then cf_const 5 71 else cf_stuck)
     else
     (bif Nat.ble pc 71 then
      (bif Nat.beq pc 71 then cf_put 3 6 74 else cf_stuck)
      else
      (bif Nat.beq pc 74 then cf_vret else cf_stuck))))))
noncomputable def F_S_planHalving : List cf_AV → cf_Wd → Option cf_Rs := cf_F T_S_planHalving 1 none (cf_shV 10 0)
theorem r_S_planHalving_0 {k : Nat} {st : List cf_AV} {w : cf_Wd} {Q : cf_Rs → Prop} : cf_wp T_S_planHalving (0, [some (.inr k)], st, w) Q ↔ cf_wp T_S_planHalving (1, [some (.inr k)], .inr k :: st, w) Q := cf_w1 rfl
theorem r_S_planHalving_1 {k : Nat} {st : List cf_AV} {w : cf_Wd} {Q : cf_Rs → Prop} : cf_wp T_S_planHalving (1, [some (.inr k)], st, w) Q ↔ cf_wp T_S_planHalving (2, [some (.inr k)], .inr k :: st, w) Q := cf_w1 rfl
theorem r_S_planHalving_2 {l0 : Option cf_AV} {st : List cf_AV} {w : cf_Wd} {Q : cf_Rs → Prop} : cf_wp T_S_planHalving (2, [l0], .inr 10 :: st, w) Q ↔ cf_wp T_S_planHalving (5, [l0], .inr 1 :: st, w) Q := cf_w1 rfl
theorem r_S_planHalving_5 {l0 : Option cf_AV} {st : List cf_AV} {w : cf_Wd} {Q : cf_Rs → Prop} : cf_wp T_S_planHalving (5, [l0], .inr 1 :: st, w) Q ↔ cf_wp T_S_planHalving (8, [l0], .inr 3 :: st, w) Q := cf_w1 rfl
theorem r_S_planHalving_8 {k : Nat} {st : List cf_AV} {w : cf_Wd} {Q : cf_Rs → Prop} : cf_wp T_S_planHalving (8, [some (.inr k)], st, w) Q ↔ cf_wp T_S_planHalving (9, [some (.inr k)], .inr k :: st, w) Q := cf_w1 rfl
theorem r_S_planHalving_9 {l0 : Option cf_AV} {st : List cf_AV} {w : cf_Wd} {Q : cf_Rs → Prop} : cf_wp T_S_planHalving (9, [l0], .inr 10 :: st, w) Q ↔ cf_wp T_S_planHalving (12, [l0], .inl (w 10 10) :: st, w) Q := cf_w1 rfl
theorem r_S_planHalving_12 {l0 : Option cf_AV} {i : Int32} {st : List cf_AV} {w : cf_Wd} {Q : cf_Rs → Prop} : cf_wp T_S_planHalving (12, [l0], .inl i :: .inr 3 :: st, w) Q ↔ (cf_in i 14 = true ∧ cf_wp T_S_planHalving (13, [l0], .inl (w 3 i.toNatClampNeg) :: st, w) Q) := cf_wg rfl
theorem r_S_planHalving_13 {k : Nat} {st : List cf_AV} {w : cf_Wd} {Q : cf_Rs → Prop} : cf_wp T_S_planHalving (13, [some (.inr k)], st, w) Q ↔ cf_wp T_S_planHalving (14, [some (.inr k)], .inr k :: st, w) Q := cf_w1 rfl
theorem r_S_planHalving_14 {l0 : Option cf_AV} {st : List cf_AV} {w : cf_Wd} {Q : cf_Rs → Prop} : cf_wp T_S_planHalving (14, [l0], .inr 10 :: st, w) Q ↔ cf_wp T_S_planHalving (17, [l0], .inl (w 10 11) :: st, w) Q := cf_w1 rfl
theorem r_S_planHalving_17 {l0 : Option cf_AV} {st : List cf_AV} {w : cf_Wd} {Q : cf_Rs → Prop} : cf_wp T_S_planHalving (17, [l0], st, w) Q ↔ cf_wp T_S_planHalving (18, [l0], .inl (-1) :: st, w) Q := cf_w1 rfl
theorem r_S_planHalving_18 {l0 : Option cf_AV} {x y : Int32} {st : List cf_AV} {w : cf_Wd} {Q : cf_Rs → Prop} : cf_wp T_S_planHalving (18, [l0], .inl y :: .inl x :: st, w) Q ↔ cf_wp T_S_planHalving (19, [l0], .inl (x ^^^ y) :: st, w) Q := cf_w1 rfl
theorem r_S_planHalving_19 {l0 : Option cf_AV} {x y : Int32} {st : List cf_AV} {w : cf_Wd} {Q : cf_Rs → Prop} : cf_wp T_S_planHalving (19, [l0], .inl y :: .inl x :: st, w) Q ↔ cf_wp T_S_planHalving (20, [l0], .inl (x &&& y) :: st, w) Q := cf_w1 rfl
theorem r_S_planHalving_20 {l0 : Option cf_AV} {x : Int32} {st : List cf_AV} {w : cf_Wd} {Q : cf_Rs → Prop} : cf_wp T_S_planHalving (20, [l0], .inl x :: .inr 10 :: st, w) Q ↔ cf_wp T_S_planHalving (23, [l0], st, (cf_wa w 10 (upd (w 10) 12 x))) Q := cf_w1 rfl
theorem r_S_planHalving_23 {k : Nat} {st : List cf_AV} {w : cf_Wd} {Q : cf_Rs → Prop} : cf_wp T_S_planHalving (23, [some (.inr k)], st, w) Q ↔ cf_wp T_S_planHalving (24, [some (.inr k)], .inr k :: st, w) Q := cf_w1 rfl
theorem r_S_planHalving_24 {k : Nat} {st : List cf_AV} {w : cf_Wd} {Q : cf_Rs → Prop} : cf_wp T_S_planHalving (24, [some (.inr k)], st, w) Q ↔ cf_wp T_S_planHalving (25, [some (.inr k)], .inr k :: st, w) Q := cf_w1 rfl
theorem r_S_planHalving_25 {l0 : Option cf_AV} {t0 : cf_AV} {w : cf_Wd} {Q : cf_Rs → Prop} : cf_wp T_S_planHalving (25, [l0], [.inr 10, t0], w) Q ↔ ∃ x w1, F_S_bestHalver [.inr 10] w = some (some (.inl x), w1) ∧ cf_wp T_S_planHalving (28, [l0], [.inl x, t0], w1) Q := cf_wci (n := 1) (F := F_S_bestHalver) (nx := 28) rfl rfl cf_F_i
theorem c_S_planHalving_25 {l0 : Option cf_AV} {t0 : cf_AV} {x1 : Int32} {w1 : cf_Wd} {w : cf_Wd} {Q : cf_Rs → Prop} (hs : F_S_bestHalver [.inr 10] w = some (some (.inl x1), w1)) : cf_wp T_S_planHalving (25, [l0], [.inr 10, t0], w) Q ↔ cf_wp T_S_planHalving (28, [l0], [.inl x1, t0], w1) Q := r_S_planHalving_25.trans (cf_xi hs)
theorem r_S_planHalving_28 {l0 : Option cf_AV} {x : Int32} {st : List cf_AV} {w : cf_Wd} {Q : cf_Rs → Prop} : cf_wp T_S_planHalving (28, [l0], .inl x :: .inr 10 :: st, w) Q ↔ cf_wp T_S_planHalving (31, [l0], st, (cf_wa w 10 (upd (w 10) 14 x))) Q := cf_w1 rfl
theorem r_S_planHalving_31 {k : Nat} {st : List cf_AV} {w : cf_Wd} {Q : cf_Rs → Prop} : cf_wp T_S_planHalving (31, [some (.inr k)], st, w) Q ↔ cf_wp T_S_planHalving (32, [some (.inr k)], .inr k :: st, w) Q := cf_w1 rfl
theorem r_S_planHalving_32 {l0 : Option cf_AV} {st : List cf_AV} {w : cf_Wd} {Q : cf_Rs → Prop} : cf_wp T_S_planHalving (32, [l0], .inr 10 :: st, w) Q ↔ cf_wp T_S_planHalving (35, [l0], .inl (w 10 14) :: st, w) Q := cf_w1 rfl
theorem r_S_planHalving_35 {l0 : Option cf_AV} {st : List cf_AV} {w : cf_Wd} {Q : cf_Rs → Prop} : cf_wp T_S_planHalving (35, [l0], st, w) Q ↔ cf_wp T_S_planHalving (36, [l0], .inl (-1) :: st, w) Q := cf_w1 rfl
theorem r_S_planHalving_36 {l0 : Option cf_AV} {x y : Int32} {st : List cf_AV} {w : cf_Wd} {Q : cf_Rs → Prop} : cf_wp T_S_planHalving (36, [l0], .inl y :: .inl x :: st, w) Q ↔ (if x = y then cf_wp T_S_planHalving (40, [l0], st, w) Q else cf_wp T_S_planHalving (39, [l0], st, w) Q) := cf_wi rfl
theorem r_S_planHalving_39 {l0 : Option cf_AV} {w : cf_Wd} {P : cf_Wd → Prop} : cf_wp T_S_planHalving (39, [l0], [], w) (cf_qv P) ↔ P w := Iff.trans (cf_wr (q := (none, w)) rfl) Iff.rfl
theorem r_S_planHalving_40 {k : Nat} {st : List cf_AV} {w : cf_Wd} {Q : cf_Rs → Prop} : cf_wp T_S_planHalving (40, [some (.inr k)], st, w) Q ↔ cf_wp T_S_planHalving (41, [some (.inr k)], .inr k :: st, w) Q := cf_w1 rfl
theorem r_S_planHalving_41 {l0 : Option cf_AV} {st : List cf_AV} {w : cf_Wd} {Q : cf_Rs → Prop} : cf_wp T_S_planHalving (41, [l0], .inr 10 :: st, w) Q ↔ cf_wp T_S_planHalving (44, [l0], .inl (w 10 12) :: st, w) Q := cf_w1 rfl
theorem r_S_planHalving_44 {l0 : Option cf_AV} {st : List cf_AV} {w : cf_Wd} {Q : cf_Rs → Prop} : cf_wp T_S_planHalving (44, [l0], st, w) Q ↔ cf_wp T_S_planHalving (45, [l0], .inl 1 :: st, w) Q := cf_w1 rfl
theorem r_S_planHalving_45 {k : Nat} {st : List cf_AV} {w : cf_Wd} {Q : cf_Rs → Prop} : cf_wp T_S_planHalving (45, [some (.inr k)], st, w) Q ↔ cf_wp T_S_planHalving (46, [some (.inr k)], .inr k :: st, w) Q := cf_w1 rfl
theorem r_S_planHalving_46 {l0 : Option cf_AV} {st : List cf_AV} {w : cf_Wd} {Q : cf_Rs → Prop} : cf_wp T_S_planHalving (46, [l0], .inr 10 :: st, w) Q ↔ cf_wp T_S_planHalving (49, [l0], .inl (w 10 10) :: st, w) Q := cf_w1 rfl
theorem r_S_planHalving_49 {l0 : Option cf_AV} {x y : Int32} {st : List cf_AV} {w : cf_Wd} {Q : cf_Rs → Prop} : cf_wp T_S_planHalving (49, [l0], .inl y :: .inl x :: st, w) Q ↔ cf_wp T_S_planHalving (50, [l0], .inl (x <<< (y &&& 31)) :: st, w) Q := cf_w1 rfl
theorem r_S_planHalving_50 {l0 : Option cf_AV} {x y : Int32} {st : List cf_AV} {w : cf_Wd} {Q : cf_Rs → Prop} : cf_wp T_S_planHalving (50, [l0], .inl y :: .inl x :: st, w) Q ↔ (if ¬ x = y then cf_wp T_S_planHalving (69, [l0], st, w) Q else cf_wp T_S_planHalving (53, [l0], st, w) Q) := cf_wi rfl
theorem r_S_planHalving_53 {k : Nat} {st : List cf_AV} {w : cf_Wd} {Q : cf_Rs → Prop} : cf_wp T_S_planHalving (53, [some (.inr k)], st, w) Q ↔ cf_wp T_S_planHalving (54, [some (.inr k)], .inr k :: st, w) Q := cf_w1 rfl
theorem r_S_planHalving_54 {k : Nat} {st : List cf_AV} {w : cf_Wd} {Q : cf_Rs → Prop} : cf_wp T_S_planHalving (54, [some (.inr k)], st, w) Q ↔ cf_wp T_S_planHalving (55, [some (.inr k)], .inr k :: st, w) Q := cf_w1 rfl
theorem r_S_planHalving_55 {l0 : Option cf_AV} {st : List cf_AV} {w : cf_Wd} {Q : cf_Rs → Prop} : cf_wp T_S_planHalving (55, [l0], .inr 10 :: st, w) Q ↔ cf_wp T_S_planHalving (58, [l0], .inl (w 10 10) :: st, w) Q := cf_w1 rfl
theorem r_S_planHalving_58 {l0 : Option cf_AV} {x : Int32} {st : List cf_AV} {w : cf_Wd} {Q : cf_Rs → Prop} : cf_wp T_S_planHalving (58, [l0], .inl x :: .inr 10 :: st, w) Q ↔ cf_wp T_S_planHalving (61, [l0], st, (cf_wa w 10 (upd (w 10) 13 x))) Q := cf_w1 rfl
theorem r_S_planHalving_61 {k : Nat} {st : List cf_AV} {w : cf_Wd} {Q : cf_Rs → Prop} : cf_wp T_S_planHalving (61, [some (.inr k)], st, w) Q ↔ cf_wp T_S_planHalving (62, [some (.inr k)], .inr k :: st, w) Q := cf_w1 rfl
theorem r_S_planHalving_62 {l0 : Option cf_AV} {st : List cf_AV} {w : cf_Wd} {Q : cf_Rs → Prop} : cf_wp T_S_planHalving (62, [l0], st, w) Q ↔ cf_wp T_S_planHalving (63, [l0], .inl 3 :: st, w) Q := cf_w1 rfl
theorem r_S_planHalving_63 {l0 : Option cf_AV} {x : Int32} {st : List cf_AV} {w : cf_Wd} {Q : cf_Rs → Prop} : cf_wp T_S_planHalving (63, [l0], .inl x :: .inr 10 :: st, w) Q ↔ cf_wp T_S_planHalving (66, [l0], st, (cf_wa w 10 (upd (w 10) 6 x))) Q := cf_w1 rfl
theorem r_S_planHalving_66 {l0 : Option cf_AV} {st : List cf_AV} {w : cf_Wd} {Q : cf_Rs → Prop} : cf_wp T_S_planHalving (66, [l0], st, w) Q ↔ cf_wp T_S_planHalving (74, [l0], st, w) Q := cf_w1 rfl
theorem r_S_planHalving_69 {k : Nat} {st : List cf_AV} {w : cf_Wd} {Q : cf_Rs → Prop} : cf_wp T_S_planHalving (69, [some (.inr k)], st, w) Q ↔ cf_wp T_S_planHalving (70, [some (.inr k)], .inr k :: st, w) Q := cf_w1 rfl
theorem r_S_planHalving_70 {l0 : Option cf_AV} {st : List cf_AV} {w : cf_Wd} {Q : cf_Rs → Prop} : cf_wp T_S_planHalving (70, [l0], st, w) Q ↔ cf_wp T_S_planHalving (71, [l0], .inl 5 :: st, w) Q := cf_w1 rfl
theorem r_S_planHalving_71 {l0 : Option cf_AV} {x : Int32} {st : List cf_AV} {w : cf_Wd} {Q : cf_Rs → Prop} : cf_wp T_S_planHalving (71, [l0], .inl x :: .inr 10 :: st, w) Q ↔ cf_wp T_S_planHalving (74, [l0], st, (cf_wa w 10 (upd (w 10) 6 x))) Q := cf_w1 rfl
theorem r_S_planHalving_74 {l0 : Option cf_AV} {w : cf_Wd} {P : cf_Wd → Prop} : cf_wp T_S_planHalving (74, [l0], [], w) (cf_qv P) ↔ P w := Iff.trans (cf_wr (q := (none, w)) rfl) Iff.rfl
theorem e_S_planHalving {w : cf_Wd} {P : cf_Wd → Prop} (h : cf_wp T_S_planHalving (0, [some (.inr 10)], [], w) (cf_qv P)) : ∃ w1, F_S_planHalving [.inr 10] w = some (none, w1) ∧ P w1 := cf_ev rfl (Nat.le_of_ble_eq_true rfl) h
noncomputable def T_H_changedLines (pc : Nat) : cf_Rw := bif Nat.ble pc 20 then
 (bif Nat.ble pc 7 then
  (bif Nat.ble pc 2 then
   (bif Nat.ble pc 0 then
    (bif Nat.beq pc 0 then cf_const 0 1 else cf_stuck)
    else
    (bif Nat.ble pc 1 then
     (bif Nat.beq pc 1 then cf_istore 3 2 else cf_stuck)
     else
     (bif Nat.beq pc 2 then cf_const 0 3 else cf_stuck)))
   else
   (bif Nat.ble pc 3 then
    (bif Nat.beq pc 3 then cf_istore 4 5 else cf_stuck)
    else
    (bif Nat.ble pc 5 then
     (bif Nat.beq pc 5 then cf_iload 4 7 else cf_stuck)
     else
     (bif Nat.beq pc 7 then cf_const 8 9 else cf_stuck))))
  else
  (bif Nat.ble pc 13 then
   (bif Nat.ble pc 9 then
    (bif Nat.beq pc 9 then cf_icge 42 12 else cf_stuck)
    else
    (bif Nat.ble pc 12 then
     (bif Nat.beq pc 12 then cf_aload 0 13 else cf_stuck)
     else
     (bif Nat.beq pc 13 then cf_iload 1 14 else cf_stuck)))
   else
   (bif Nat.ble pc 16 then
    (bif Nat.ble pc 14 then
     (bif Nat.beq pc 14 then cf_iload 4 16 else cf_stuck)
     else
     (bif Nat.beq pc 16 then cf_call 3 F_H_codeAt 19 else cf_stuck))
    else
    (bif Nat.ble pc 19 then
     (bif Nat.beq pc 19 then cf_aload 0 20 else cf_stuck)
     else
     (bif Nat.beq pc 20 then cf_iload 2 21 else cf_stuck)))))
 else
 (bif Nat.ble pc 31 then
  (bif Nat.ble pc 26 then
   (bif Nat.ble pc 21 then
    (bif Nat.beq pc 21 then cf_iload 4 23 else cf_stuck)
    else
    (bif Nat.ble pc 23 then
     (bif Nat.beq pc 23 then cf_call 3 F_H_codeAt 26 else cf_stuck)
     else
     (bif Nat.beq pc 26 then cf_iceq 36 29 else cf_stuck)))
   else
   (bif Nat.ble pc 29 then
    (bif Nat.beq pc 29 then cf_iload 3 30 else cf_stuck)
    else
    (bif Nat.ble pc 30 then
     (bif Nat.beq pc 30 then cf_const 1 31 else cf_stuck)
     else
     (bif Nat.beq pc 31 then cf_iload 4 33 else cf_stuck))))
  else
  (bif Nat.ble pc 35 then
   (bif Nat.ble pc 33 then
    (bif Nat.beq pc 33 then cf_bin (fun x y => x <<< (y &&& 31)) 34 else cf_stuck)
    else
    (bif Nat.ble pc 34 then
     (bif Nat.beq pc 34 then cf_bin (fun x y => x ||| y) 35 else cf_stuck)
     else
     (bif Nat.beq pc 35 then cf_istore 3 36 else cf_stuck)))
   else
   (bif Nat.ble pc 39 then
    (bif Nat.ble pc 36 then
     (bif Nat.beq pc 36 then cf_iinc 4 1 39 else cf_stuck)
     else
     (bif Nat.beq pc 39 then cf_goto 5 else cf_stuck))
    else
    (bif Nat.ble pc 42 then
     (bif Nat.beq pc 42 then cf_iload 3 43 else cf_stuck)
     else
     (bif Nat.beq pc 43 then cf_iret else cf_stuck)))))
noncomputable def F_H_changedLines : List cf_AV → cf_Wd → Option cf_Rs := cf_F T_H_changedLines 5 (some .int) (cf_shV 1 2)
theorem r_H_changedLines_0 {l0 l1 l2 l3 l4 : Option cf_AV} {st : List cf_AV} {w : cf_Wd} {Q : cf_Rs → Prop} : cf_wp T_H_changedLines (0, [l0, l1, l2, l3, l4], st, w) Q ↔ cf_wp T_H_changedLines (1, [l0, l1, l2, l3, l4], .inl 0 :: st, w) Q := cf_w1 rfl
theorem r_H_changedLines_1 {l0 l1 l2 l3 l4 : Option cf_AV} {x : Int32} {st : List cf_AV} {w : cf_Wd} {Q : cf_Rs → Prop} : cf_wp T_H_changedLines (1, [l0, l1, l2, l3, l4], .inl x :: st, w) Q ↔ cf_wp T_H_changedLines (2, [l0, l1, l2, some (.inl x), l4], st, w) Q := cf_w1 rfl
theorem r_H_changedLines_2 {l0 l1 l2 l3 l4 : Option cf_AV} {st : List cf_AV} {w : cf_Wd} {Q : cf_Rs → Prop} : cf_wp T_H_changedLines (2, [l0, l1, l2, l3, l4], st, w) Q ↔ cf_wp T_H_changedLines (3, [l0, l1, l2, l3, l4], .inl 0 :: st, w) Q := cf_w1 rfl
theorem r_H_changedLines_3 {l0 l1 l2 l3 l4 : Option cf_AV} {x : Int32} {st : List cf_AV} {w : cf_Wd} {Q : cf_Rs → Prop} : cf_wp T_H_changedLines (3, [l0, l1, l2, l3, l4], .inl x :: st, w) Q ↔ cf_wp T_H_changedLines (5, [l0, l1, l2, l3, some (.inl x)], st, w) Q := cf_w1 rfl
theorem r_H_changedLines_5 {l0 l1 l2 l3 : Option cf_AV} {x : Int32} {st : List cf_AV} {w : cf_Wd} {Q : cf_Rs → Prop} : cf_wp T_H_changedLines (5, [l0, l1, l2, l3, some (.inl x)], st, w) Q ↔ cf_wp T_H_changedLines (7, [l0, l1, l2, l3, some (.inl x)], .inl x :: st, w) Q := cf_w1 rfl
theorem r_H_changedLines_7 {l0 l1 l2 l3 l4 : Option cf_AV} {st : List cf_AV} {w : cf_Wd} {Q : cf_Rs → Prop} : cf_wp T_H_changedLines (7, [l0, l1, l2, l3, l4], st, w) Q ↔ cf_wp T_H_changedLines (9, [l0, l1, l2, l3, l4], .inl 8 :: st, w) Q := cf_w1 rfl
theorem r_H_changedLines_9 {l0 l1 l2 l3 l4 : Option cf_AV} {x y : Int32} {st : List cf_AV} {w : cf_Wd} {Q : cf_Rs → Prop} : cf_wp T_H_changedLines (9, [l0, l1, l2, l3, l4], .inl y :: .inl x :: st, w) Q ↔ (if y ≤ x then cf_wp T_H_changedLines (42, [l0, l1, l2, l3, l4], st, w) Q else cf_wp T_H_changedLines (12, [l0, l1, l2, l3, l4], st, w) Q) := cf_wi rfl
theorem r_H_changedLines_12 {l1 l2 l3 l4 : Option cf_AV} {k : Nat} {st : List cf_AV} {w : cf_Wd} {Q : cf_Rs → Prop} : cf_wp T_H_changedLines (12, [some (.inr k), l1, l2, l3, l4], st, w) Q ↔ cf_wp T_H_changedLines (13, [some (.inr k), l1, l2, l3, l4], .inr k :: st, w) Q := cf_w1 rfl
theorem r_H_changedLines_13 {l0 l2 l3 l4 : Option cf_AV} {x : Int32} {st : List cf_AV} {w : cf_Wd} {Q : cf_Rs → Prop} : cf_wp T_H_changedLines (13, [l0, some (.inl x), l2, l3, l4], st, w) Q ↔ cf_wp T_H_changedLines (14, [l0, some (.inl x), l2, l3, l4], .inl x :: st, w) Q := cf_w1 rfl
theorem r_H_changedLines_14 {l0 l1 l2 l3 : Option cf_AV} {x : Int32} {st : List cf_AV} {w : cf_Wd} {Q : cf_Rs → Prop} : cf_wp T_H_changedLines (14, [l0, l1, l2, l3, some (.inl x)], st, w) Q ↔ cf_wp T_H_changedLines (16, [l0, l1, l2, l3, some (.inl x)], .inl x :: st, w) Q := cf_w1 rfl
theorem r_H_changedLines_16 {l0 l1 l2 l3 l4 : Option cf_AV} {a2 a1 : Int32} {w : cf_Wd} {Q : cf_Rs → Prop} : cf_wp T_H_changedLines (16, [l0, l1, l2, l3, l4], [.inl a2, .inl a1, .inr 1], w) Q ↔ ∃ x w1, F_H_codeAt [.inr 1, .inl a1, .inl a2] w = some (some (.inl x), w1) ∧ cf_wp T_H_changedLines (19, [l0, l1, l2, l3, l4], [.inl x], w1) Q := cf_wci (n := 3) (F := F_H_codeAt) (nx := 19) rfl rfl cf_F_i
theorem c_H_changedLines_16 {l0 l1 l2 l3 l4 : Option cf_AV} {a2 a1 : Int32} {x1 : Int32} {w1 : cf_Wd} {w : cf_Wd} {Q : cf_Rs → Prop} (hs : F_H_codeAt [.inr 1, .inl a1, .inl a2] w = some (some (.inl x1), w1)) : cf_wp T_H_changedLines (16, [l0, l1, l2, l3, l4], [.inl a2, .inl a1, .inr 1], w) Q ↔ cf_wp T_H_changedLines (19, [l0, l1, l2, l3, l4], [.inl x1], w1) Q := r_H_changedLines_16.trans (cf_xi hs)
theorem r_H_changedLines_19 {l1 l2 l3 l4 : Option cf_AV} {k : Nat} {st : List cf_AV} {w : cf_Wd} {Q : cf_Rs → Prop} : cf_wp T_H_changedLines (19, [some (.inr k), l1, l2, l3, l4], st, w) Q ↔ cf_wp T_H_changedLines (20, [some (.inr k), l1, l2, l3, l4], .inr k :: st, w) Q := cf_w1 rfl
theorem r_H_changedLines_20 {l0 l1 l3 l4 : Option cf_AV} {x : Int32} {st : List cf_AV} {w : cf_Wd} {Q : cf_Rs → Prop} : cf_wp T_H_changedLines (20, [l0, l1, some (.inl x), l3, l4], st, w) Q ↔ cf_wp T_H_changedLines (21, [l0, l1, some (.inl x), l3, l4], .inl x :: st, w) Q := cf_w1 rfl
theorem r_H_changedLines_21 {l0 l1 l2 l3 : Option cf_AV} {x : Int32} {st : List cf_AV} {w : cf_Wd} {Q : cf_Rs → Prop} : cf_wp T_H_changedLines (21, [l0, l1, l2, l3, some (.inl x)], st, w) Q ↔ cf_wp T_H_changedLines (23, [l0, l1, l2, l3, some (.inl x)], .inl x :: st, w) Q := cf_w1 rfl
theorem r_H_changedLines_23 {l0 l1 l2 l3 l4 : Option cf_AV} {a2 a1 : Int32} {t0 : cf_AV} {w : cf_Wd} {Q : cf_Rs → Prop} : cf_wp T_H_changedLines (23, [l0, l1, l2, l3, l4], [.inl a2, .inl a1, .inr 1, t0], w) Q ↔ ∃ x w1, F_H_codeAt [.inr 1, .inl a1, .inl a2] w = some (some (.inl x), w1) ∧ cf_wp T_H_changedLines (26, [l0, l1, l2, l3, l4], [.inl x, t0], w1) Q := cf_wci (n := 3) (F := F_H_codeAt) (nx := 26) rfl rfl cf_F_i
theorem c_H_changedLines_23 {l0 l1 l2 l3 l4 : Option cf_AV} {a2 a1 : Int32} {t0 : cf_AV} {x1 : Int32} {w1 : cf_Wd} {w : cf_Wd} {Q : cf_Rs → Prop} (hs : F_H_codeAt [.inr 1, .inl a1, .inl a2] w = some (some (.inl x1), w1)) : cf_wp T_H_changedLines (23, [l0, l1, l2, l3, l4], [.inl a2, .inl a1, .inr 1, t0], w) Q ↔ cf_wp T_H_changedLines (26, [l0, l1, l2, l3, l4], [.inl x1, t0], w1) Q := r_H_changedLines_23.trans (cf_xi hs)
theorem r_H_changedLines_26 {l0 l1 l2 l3 l4 : Option cf_AV} {x y : Int32} {st : List cf_AV} {w : cf_Wd} {Q : cf_Rs → Prop} : cf_wp T_H_changedLines (26, [l0, l1, l2, l3, l4], .inl y :: .inl x :: st, w) Q ↔ (if x = y then cf_wp T_H_changedLines (36, [l0, l1, l2, l3, l4], st, w) Q else cf_wp T_H_changedLines (29, [l0, l1, l2, l3, l4], st, w) Q) := cf_wi rfl
theorem r_H_changedLines_29 {l0 l1 l2 l4 : Option cf_AV} {x : Int32} {st : List cf_AV} {w : cf_Wd} {Q : cf_Rs → Prop} : cf_wp T_H_changedLines (29, [l0, l1, l2, some (.inl x), l4], st, w) Q ↔ cf_wp T_H_changedLines (30, [l0, l1, l2, some (.inl x), l4], .inl x :: st, w) Q := cf_w1 rfl
theorem r_H_changedLines_30 {l0 l1 l2 l3 l4 : Option cf_AV} {st : List cf_AV} {w : cf_Wd} {Q : cf_Rs → Prop} : cf_wp T_H_changedLines (30, [l0, l1, l2, l3, l4], st, w) Q ↔ cf_wp T_H_changedLines (31, [l0, l1, l2, l3, l4], .inl 1 :: st, w) Q := cf_w1 rfl
theorem r_H_changedLines_31 {l0 l1 l2 l3 : Option cf_AV} {x : Int32} {st : List cf_AV} {w : cf_Wd} {Q : cf_Rs → Prop} : cf_wp T_H_changedLines (31, [l0, l1, l2, l3, some (.inl x)], st, w) Q ↔ cf_wp T_H_changedLines (33, [l0, l1, l2, l3, some (.inl x)], .inl x :: st, w) Q := cf_w1 rfl
theorem r_H_changedLines_33 {l0 l1 l2 l3 l4 : Option cf_AV} {x y : Int32} {st : List cf_AV} {w : cf_Wd} {Q : cf_Rs → Prop} : cf_wp T_H_changedLines (33, [l0, l1, l2, l3, l4], .inl y :: .inl x :: st, w) Q ↔ cf_wp T_H_changedLines (34, [l0, l1, l2, l3, l4], .inl (x <<< (y &&& 31)) :: st, w) Q := cf_w1 rfl
theorem r_H_changedLines_34 {l0 l1 l2 l3 l4 : Option cf_AV} {x y : Int32} {st : List cf_AV} {w : cf_Wd} {Q : cf_Rs → Prop} : cf_wp T_H_changedLines (34, [l0, l1, l2, l3, l4], .inl y :: .inl x :: st, w) Q ↔ cf_wp T_H_changedLines (35, [l0, l1, l2, l3, l4], .inl (x ||| y) :: st, w) Q := cf_w1 rfl
theorem r_H_changedLines_35 {l0 l1 l2 l3 l4 : Option cf_AV} {x : Int32} {st : List cf_AV} {w : cf_Wd} {Q : cf_Rs → Prop} : cf_wp T_H_changedLines (35, [l0, l1, l2, l3, l4], .inl x :: st, w) Q ↔ cf_wp T_H_changedLines (36, [l0, l1, l2, some (.inl x), l4], st, w) Q := cf_w1 rfl
theorem r_H_changedLines_36 {l0 l1 l2 l3 : Option cf_AV} {x : Int32} {st : List cf_AV} {w : cf_Wd} {Q : cf_Rs → Prop} : cf_wp T_H_changedLines (36, [l0, l1, l2, l3, some (.inl x)], st, w) Q ↔ cf_wp T_H_changedLines (39, [l0, l1, l2, l3, some (.inl (x + 1))], st, w) Q := cf_w1 rfl
theorem r_H_changedLines_39 {l0 l1 l2 l3 l4 : Option cf_AV} {st : List cf_AV} {w : cf_Wd} {Q : cf_Rs → Prop} : cf_wp T_H_changedLines (39, [l0, l1, l2, l3, l4], st, w) Q ↔ cf_wp T_H_changedLines (5, [l0, l1, l2, l3, l4], st, w) Q := cf_w1 rfl
theorem r_H_changedLines_42 {l0 l1 l2 l4 : Option cf_AV} {x : Int32} {st : List cf_AV} {w : cf_Wd} {Q : cf_Rs → Prop} : cf_wp T_H_changedLines (42, [l0, l1, l2, some (.inl x), l4], st, w) Q ↔ cf_wp T_H_changedLines (43, [l0, l1, l2, some (.inl x), l4], .inl x :: st, w) Q := cf_w1 rfl
theorem r_H_changedLines_43 {l0 l1 l2 l3 l4 : Option cf_AV} {x : Int32} {w : cf_Wd} {P : Int32 → cf_Wd → Prop} : cf_wp T_H_changedLines (43, [l0, l1, l2, l3, l4], [.inl x], w) (cf_qi P) ↔ P x w := Iff.trans (cf_wr (q := (some (.inl x), w)) rfl) Iff.rfl
theorem e_H_changedLines {a1 a2 : Int32} {w : cf_Wd} {P : Int32 → cf_Wd → Prop} (h : cf_wp T_H_changedLines (0, [some (.inr 1), some (.inl a1), some (.inl a2), none, none], [], w) (cf_qi P)) : ∃ x w1, F_H_changedLines [.inr 1, .inl a1, .inl a2] w = some (some (.inl x), w1) ∧ P x w1 := cf_ei rfl (Nat.le_of_ble_eq_true rfl) h
noncomputable def T_R_placesOfSet (pc : Nat) : cf_Rw := bif Nat.ble pc 24 then
 (bif Nat.ble pc 10 then
  (bif Nat.ble pc 3 then
   (bif Nat.ble pc 1 then
    (bif Nat.ble pc 0 then
     (bif Nat.beq pc 0 then cf_const 0 1 else cf_stuck)
     else
     (bif Nat.beq pc 1 then cf_istore 3 2 else cf_stuck))
    else
    (bif Nat.ble pc 2 then
     (bif Nat.beq pc 2 then cf_const 0 3 else cf_stuck)
     else
     (bif Nat.beq pc 3 then cf_istore 4 5 else cf_stuck)))
   else
   (bif Nat.ble pc 6 then
    (bif Nat.ble pc 5 then
     (bif Nat.beq pc 5 then cf_const 0 6 else cf_stuck)
     else
     (bif Nat.beq pc 6 then cf_istore 5 8 else cf_stuck))
    else
    (bif Nat.ble pc 8 then
     (bif Nat.beq pc 8 then cf_iload 5 10 else cf_stuck)
     else
     (bif Nat.beq pc 10 then cf_const 8 12 else cf_stuck))))
  else
  (bif Nat.ble pc 19 then
   (bif Nat.ble pc 15 then
    (bif Nat.ble pc 12 then
     (bif Nat.beq pc 12 then cf_icge 55 15 else cf_stuck)
     else
     (bif Nat.beq pc 15 then cf_aload 0 16 else cf_stuck))
    else
    (bif Nat.ble pc 16 then
     (bif Nat.beq pc 16 then cf_get 2 1 19 else cf_stuck)
     else
     (bif Nat.beq pc 19 then cf_iload 5 21 else cf_stuck)))
   else
   (bif Nat.ble pc 22 then
    (bif Nat.ble pc 21 then
     (bif Nat.beq pc 21 then cf_bin (fun x y => x >>> (y &&& 31)) 22 else cf_stuck)
     else
     (bif Nat.beq pc 22 then cf_const 1 23 else cf_stuck))
    else
    (bif Nat.ble pc 23 then
     (bif Nat.beq pc 23 then cf_bin (fun x y => x &&& y) 24 else cf_stuck)
     else
     (bif Nat.beq pc 24 then cf_ifeq 49 27 else cf_stuck)))))
 else
 (bif Nat.ble pc 39 then
  (bif Nat.ble pc 32 then
   (bif Nat.ble pc 28 then
    (bif Nat.ble pc 27 then
     (bif Nat.beq pc 27 then cf_iload 3 28 else cf_stuck)
     else
     (bif Nat.beq pc 28 then cf_iload 1 29 else cf_stuck))
    else
    (bif Nat.ble pc 29 then
     (bif Nat.beq pc 29 then cf_iclt 46 32 else cf_stuck)
     else
     (bif Nat.beq pc 32 then cf_iload 3 33 else cf_stuck)))
   else
   (bif Nat.ble pc 34 then
    (bif Nat.ble pc 33 then
     (bif Nat.beq pc 33 then cf_iload 2 34 else cf_stuck)
     else
     (bif Nat.beq pc 34 then cf_icge 46 37 else cf_stuck))
    else
    (bif Nat.ble pc 37 then
     (bif Nat.beq pc 37 then cf_iload 4 39 else cf_stuck)
     else
     (bif Nat.beq pc 39 then cf_const 1 40 else cf_stuck))))
  else
  (bif Nat.ble pc 44 then
   (bif Nat.ble pc 42 then
    (bif Nat.ble pc 40 then
     (bif Nat.beq pc 40 then cf_iload 5 42 else cf_stuck)
     else
     (bif Nat.beq pc 42 then cf_bin (fun x y => x <<< (y &&& 31)) 43 else cf_stuck))
    else
    (bif Nat.ble pc 43 then
     (bif Nat.beq pc 43 then cf_bin (fun x y => x ||| y) 44 else cf_stuck)
     else
     (bif Nat.beq pc 44 then cf_istore 4 46 else cf_stuck)))
   else
   (bif Nat.ble pc 49 then
    (bif Nat.ble pc 46 then
     (bif Nat.beq pc 46 then cf_iinc 3 1 49 else cf_stuck)
     else
     (bif Nat.beq pc 49 then cf_iinc 5 1 52 else cf_stuck))
    else
    (bif Nat.ble pc 52 then
     (bif Nat.beq pc 52 then cf_goto 8 else cf_stuck)
     else
     (bif Nat.ble pc 55 then
      (bif Nat.beq pc 55 then cf_iload 4 57 else cf_stuck)
      else
      (bif Nat.beq pc 57 then cf_iret else cf_stuck))))))
noncomputable def F_R_placesOfSet : List cf_AV → cf_Wd → Option cf_Rs := cf_F T_R_placesOfSet 6 (some .int) (cf_shV 11 2)
theorem r_R_placesOfSet_0 {l0 l1 l2 l3 l4 l5 : Option cf_AV} {st : List cf_AV} {w : cf_Wd} {Q : cf_Rs → Prop} : cf_wp T_R_placesOfSet (0, [l0, l1, l2, l3, l4, l5], st, w) Q ↔ cf_wp T_R_placesOfSet (1, [l0, l1, l2, l3, l4, l5], .inl 0 :: st, w) Q := cf_w1 rfl
theorem r_R_placesOfSet_1 {l0 l1 l2 l3 l4 l5 : Option cf_AV} {x : Int32} {st : List cf_AV} {w : cf_Wd} {Q : cf_Rs → Prop} : cf_wp T_R_placesOfSet (1, [l0, l1, l2, l3, l4, l5], .inl x :: st, w) Q ↔ cf_wp T_R_placesOfSet (2, [l0, l1, l2, some (.inl x), l4, l5], st, w) Q := cf_w1 rfl
theorem r_R_placesOfSet_2 {l0 l1 l2 l3 l4 l5 : Option cf_AV} {st : List cf_AV} {w : cf_Wd} {Q : cf_Rs → Prop} : cf_wp T_R_placesOfSet (2, [l0, l1, l2, l3, l4, l5], st, w) Q ↔ cf_wp T_R_placesOfSet (3, [l0, l1, l2, l3, l4, l5], .inl 0 :: st, w) Q := cf_w1 rfl
theorem r_R_placesOfSet_3 {l0 l1 l2 l3 l4 l5 : Option cf_AV} {x : Int32} {st : List cf_AV} {w : cf_Wd} {Q : cf_Rs → Prop} : cf_wp T_R_placesOfSet (3, [l0, l1, l2, l3, l4, l5], .inl x :: st, w) Q ↔ cf_wp T_R_placesOfSet (5, [l0, l1, l2, l3, some (.inl x), l5], st, w) Q := cf_w1 rfl
theorem r_R_placesOfSet_5 {l0 l1 l2 l3 l4 l5 : Option cf_AV} {st : List cf_AV} {w : cf_Wd} {Q : cf_Rs → Prop} : cf_wp T_R_placesOfSet (5, [l0, l1, l2, l3, l4, l5], st, w) Q ↔ cf_wp T_R_placesOfSet (6, [l0, l1, l2, l3, l4, l5], .inl 0 :: st, w) Q := cf_w1 rfl
theorem r_R_placesOfSet_6 {l0 l1 l2 l3 l4 l5 : Option cf_AV} {x : Int32} {st : List cf_AV} {w : cf_Wd} {Q : cf_Rs → Prop} : cf_wp T_R_placesOfSet (6, [l0, l1, l2, l3, l4, l5], .inl x :: st, w) Q ↔ cf_wp T_R_placesOfSet (8, [l0, l1, l2, l3, l4, some (.inl x)], st, w) Q := cf_w1 rfl
theorem r_R_placesOfSet_8 {l0 l1 l2 l3 l4 : Option cf_AV} {x : Int32} {st : List cf_AV} {w : cf_Wd} {Q : cf_Rs → Prop} : cf_wp T_R_placesOfSet (8, [l0, l1, l2, l3, l4, some (.inl x)], st, w) Q ↔ cf_wp T_R_placesOfSet (10, [l0, l1, l2, l3, l4, some (.inl x)], .inl x :: st, w) Q := cf_w1 rfl
theorem r_R_placesOfSet_10 {l0 l1 l2 l3 l4 l5 : Option cf_AV} {st : List cf_AV} {w : cf_Wd} {Q : cf_Rs → Prop} : cf_wp T_R_placesOfSet (10, [l0, l1, l2, l3, l4, l5], st, w) Q ↔ cf_wp T_R_placesOfSet (12, [l0, l1, l2, l3, l4, l5], .inl 8 :: st, w) Q := cf_w1 rfl
theorem r_R_placesOfSet_12 {l0 l1 l2 l3 l4 l5 : Option cf_AV} {x y : Int32} {st : List cf_AV} {w : cf_Wd} {Q : cf_Rs → Prop} : cf_wp T_R_placesOfSet (12, [l0, l1, l2, l3, l4, l5], .inl y :: .inl x :: st, w) Q ↔ (if y ≤ x then cf_wp T_R_placesOfSet (55, [l0, l1, l2, l3, l4, l5], st, w) Q else cf_wp T_R_placesOfSet (15, [l0, l1, l2, l3, l4, l5], st, w) Q) := cf_wi rfl
theorem r_R_placesOfSet_15 {l1 l2 l3 l4 l5 : Option cf_AV} {k : Nat} {st : List cf_AV} {w : cf_Wd} {Q : cf_Rs → Prop} : cf_wp T_R_placesOfSet (15, [some (.inr k), l1, l2, l3, l4, l5], st, w) Q ↔ cf_wp T_R_placesOfSet (16, [some (.inr k), l1, l2, l3, l4, l5], .inr k :: st, w) Q := cf_w1 rfl
theorem r_R_placesOfSet_16 {l0 l1 l2 l3 l4 l5 : Option cf_AV} {st : List cf_AV} {w : cf_Wd} {Q : cf_Rs → Prop} : cf_wp T_R_placesOfSet (16, [l0, l1, l2, l3, l4, l5], .inr 11 :: st, w) Q ↔ cf_wp T_R_placesOfSet (19, [l0, l1, l2, l3, l4, l5], .inl (w 11 1) :: st, w) Q := cf_w1 rfl
theorem r_R_placesOfSet_19 {l0 l1 l2 l3 l4 : Option cf_AV} {x : Int32} {st : List cf_AV} {w : cf_Wd} {Q : cf_Rs → Prop} : cf_wp T_R_placesOfSet (19, [l0, l1, l2, l3, l4, some (.inl x)], st, w) Q ↔ cf_wp T_R_placesOfSet (21, [l0, l1, l2, l3, l4, some (.inl x)], .inl x :: st, w) Q := cf_w1 rfl
theorem r_R_placesOfSet_21 {l0 l1 l2 l3 l4 l5 : Option cf_AV} {x y : Int32} {st : List cf_AV} {w : cf_Wd} {Q : cf_Rs → Prop} : cf_wp T_R_placesOfSet (21, [l0, l1, l2, l3, l4, l5], .inl y :: .inl x :: st, w) Q ↔ cf_wp T_R_placesOfSet (22, [l0, l1, l2, l3, l4, l5], .inl (x >>> (y &&& 31)) :: st, w) Q := cf_w1 rfl
theorem r_R_placesOfSet_22 {l0 l1 l2 l3 l4 l5 : Option cf_AV} {st : List cf_AV} {w : cf_Wd} {Q : cf_Rs → Prop} : cf_wp T_R_placesOfSet (22, [l0, l1, l2, l3, l4, l5], st, w) Q ↔ cf_wp T_R_placesOfSet (23, [l0, l1, l2, l3, l4, l5], .inl 1 :: st, w) Q := cf_w1 rfl
theorem r_R_placesOfSet_23 {l0 l1 l2 l3 l4 l5 : Option cf_AV} {x y : Int32} {st : List cf_AV} {w : cf_Wd} {Q : cf_Rs → Prop} : cf_wp T_R_placesOfSet (23, [l0, l1, l2, l3, l4, l5], .inl y :: .inl x :: st, w) Q ↔ cf_wp T_R_placesOfSet (24, [l0, l1, l2, l3, l4, l5], .inl (x &&& y) :: st, w) Q := cf_w1 rfl
theorem r_R_placesOfSet_24 {l0 l1 l2 l3 l4 l5 : Option cf_AV} {x : Int32} {st : List cf_AV} {w : cf_Wd} {Q : cf_Rs → Prop} : cf_wp T_R_placesOfSet (24, [l0, l1, l2, l3, l4, l5], .inl x :: st, w) Q ↔ (if x = 0 then cf_wp T_R_placesOfSet (49, [l0, l1, l2, l3, l4, l5], st, w) Q else cf_wp T_R_placesOfSet (27, [l0, l1, l2, l3, l4, l5], st, w) Q) := cf_wi rfl
theorem r_R_placesOfSet_27 {l0 l1 l2 l4 l5 : Option cf_AV} {x : Int32} {st : List cf_AV} {w : cf_Wd} {Q : cf_Rs → Prop} : cf_wp T_R_placesOfSet (27, [l0, l1, l2, some (.inl x), l4, l5], st, w) Q ↔ cf_wp T_R_placesOfSet (28, [l0, l1, l2, some (.inl x), l4, l5], .inl x :: st, w) Q := cf_w1 rfl
theorem r_R_placesOfSet_28 {l0 l2 l3 l4 l5 : Option cf_AV} {x : Int32} {st : List cf_AV} {w : cf_Wd} {Q : cf_Rs → Prop} : cf_wp T_R_placesOfSet (28, [l0, some (.inl x), l2, l3, l4, l5], st, w) Q ↔ cf_wp T_R_placesOfSet (29, [l0, some (.inl x), l2, l3, l4, l5], .inl x :: st, w) Q := cf_w1 rfl
theorem r_R_placesOfSet_29 {l0 l1 l2 l3 l4 l5 : Option cf_AV} {x y : Int32} {st : List cf_AV} {w : cf_Wd} {Q : cf_Rs → Prop} : cf_wp T_R_placesOfSet (29, [l0, l1, l2, l3, l4, l5], .inl y :: .inl x :: st, w) Q ↔ (if x < y then cf_wp T_R_placesOfSet (46, [l0, l1, l2, l3, l4, l5], st, w) Q else cf_wp T_R_placesOfSet (32, [l0, l1, l2, l3, l4, l5], st, w) Q) := cf_wi rfl
theorem r_R_placesOfSet_32 {l0 l1 l2 l4 l5 : Option cf_AV} {x : Int32} {st : List cf_AV} {w : cf_Wd} {Q : cf_Rs → Prop} : cf_wp T_R_placesOfSet (32, [l0, l1, l2, some (.inl x), l4, l5], st, w) Q ↔ cf_wp T_R_placesOfSet (33, [l0, l1, l2, some (.inl x), l4, l5], .inl x :: st, w) Q := cf_w1 rfl
theorem r_R_placesOfSet_33 {l0 l1 l3 l4 l5 : Option cf_AV} {x : Int32} {st : List cf_AV} {w : cf_Wd} {Q : cf_Rs → Prop} : cf_wp T_R_placesOfSet (33, [l0, l1, some (.inl x), l3, l4, l5], st, w) Q ↔ cf_wp T_R_placesOfSet (34, [l0, l1, some (.inl x), l3, l4, l5], .inl x :: st, w) Q := cf_w1 rfl
theorem r_R_placesOfSet_34 {l0 l1 l2 l3 l4 l5 : Option cf_AV} {x y : Int32} {st : List cf_AV} {w : cf_Wd} {Q : cf_Rs → Prop} : cf_wp T_R_placesOfSet (34, [l0, l1, l2, l3, l4, l5], .inl y :: .inl x :: st, w) Q ↔ (if y ≤ x then cf_wp T_R_placesOfSet (46, [l0, l1, l2, l3, l4, l5], st, w) Q else cf_wp T_R_placesOfSet (37, [l0, l1, l2, l3, l4, l5], st, w) Q) := cf_wi rfl
theorem r_R_placesOfSet_37 {l0 l1 l2 l3 l5 : Option cf_AV} {x : Int32} {st : List cf_AV} {w : cf_Wd} {Q : cf_Rs → Prop} : cf_wp T_R_placesOfSet (37, [l0, l1, l2, l3, some (.inl x), l5], st, w) Q ↔ cf_wp T_R_placesOfSet (39, [l0, l1, l2, l3, some (.inl x), l5], .inl x :: st, w) Q := cf_w1 rfl
theorem r_R_placesOfSet_39 {l0 l1 l2 l3 l4 l5 : Option cf_AV} {st : List cf_AV} {w : cf_Wd} {Q : cf_Rs → Prop} : cf_wp T_R_placesOfSet (39, [l0, l1, l2, l3, l4, l5], st, w) Q ↔ cf_wp T_R_placesOfSet (40, [l0, l1, l2, l3, l4, l5], .inl 1 :: st, w) Q := cf_w1 rfl
theorem r_R_placesOfSet_40 {l0 l1 l2 l3 l4 : Option cf_AV} {x : Int32} {st : List cf_AV} {w : cf_Wd} {Q : cf_Rs → Prop} : cf_wp T_R_placesOfSet (40, [l0, l1, l2, l3, l4, some (.inl x)], st, w) Q ↔ cf_wp T_R_placesOfSet (42, [l0, l1, l2, l3, l4, some (.inl x)], .inl x :: st, w) Q := cf_w1 rfl
theorem r_R_placesOfSet_42 {l0 l1 l2 l3 l4 l5 : Option cf_AV} {x y : Int32} {st : List cf_AV} {w : cf_Wd} {Q : cf_Rs → Prop} : cf_wp T_R_placesOfSet (42, [l0, l1, l2, l3, l4, l5], .inl y :: .inl x :: st, w) Q ↔ cf_wp T_R_placesOfSet (43, [l0, l1, l2, l3, l4, l5], .inl (x <<< (y &&& 31)) :: st, w) Q := cf_w1 rfl
theorem r_R_placesOfSet_43 {l0 l1 l2 l3 l4 l5 : Option cf_AV} {x y : Int32} {st : List cf_AV} {w : cf_Wd} {Q : cf_Rs → Prop} : cf_wp T_R_placesOfSet (43, [l0, l1, l2, l3, l4, l5], .inl y :: .inl x :: st, w) Q ↔ cf_wp T_R_placesOfSet (44, [l0, l1, l2, l3, l4, l5], .inl (x ||| y) :: st, w) Q := cf_w1 rfl
theorem r_R_placesOfSet_44 {l0 l1 l2 l3 l4 l5 : Option cf_AV} {x : Int32} {st : List cf_AV} {w : cf_Wd} {Q : cf_Rs → Prop} : cf_wp T_R_placesOfSet (44, [l0, l1, l2, l3, l4, l5], .inl x :: st, w) Q ↔ cf_wp T_R_placesOfSet (46, [l0, l1, l2, l3, some (.inl x), l5], st, w) Q := cf_w1 rfl
theorem r_R_placesOfSet_46 {l0 l1 l2 l4 l5 : Option cf_AV} {x : Int32} {st : List cf_AV} {w : cf_Wd} {Q : cf_Rs → Prop} : cf_wp T_R_placesOfSet (46, [l0, l1, l2, some (.inl x), l4, l5], st, w) Q ↔ cf_wp T_R_placesOfSet (49, [l0, l1, l2, some (.inl (x + 1)), l4, l5], st, w) Q := cf_w1 rfl
theorem r_R_placesOfSet_49 {l0 l1 l2 l3 l4 : Option cf_AV} {x : Int32} {st : List cf_AV} {w : cf_Wd} {Q : cf_Rs → Prop} : cf_wp T_R_placesOfSet (49, [l0, l1, l2, l3, l4, some (.inl x)], st, w) Q ↔ cf_wp T_R_placesOfSet (52, [l0, l1, l2, l3, l4, some (.inl (x + 1))], st, w) Q := cf_w1 rfl
theorem r_R_placesOfSet_52 {l0 l1 l2 l3 l4 l5 : Option cf_AV} {st : List cf_AV} {w : cf_Wd} {Q : cf_Rs → Prop} : cf_wp T_R_placesOfSet (52, [l0, l1, l2, l3, l4, l5], st, w) Q ↔ cf_wp T_R_placesOfSet (8, [l0, l1, l2, l3, l4, l5], st, w) Q := cf_w1 rfl
theorem r_R_placesOfSet_55 {l0 l1 l2 l3 l5 : Option cf_AV} {x : Int32} {st : List cf_AV} {w : cf_Wd} {Q : cf_Rs → Prop} : cf_wp T_R_placesOfSet (55, [l0, l1, l2, l3, some (.inl x), l5], st, w) Q ↔ cf_wp T_R_placesOfSet (57, [l0, l1, l2, l3, some (.inl x), l5], .inl x :: st, w) Q := cf_w1 rfl
theorem r_R_placesOfSet_57 {l0 l1 l2 l3 l4 l5 : Option cf_AV} {x : Int32} {w : cf_Wd} {P : Int32 → cf_Wd → Prop} : cf_wp T_R_placesOfSet (57, [l0, l1, l2, l3, l4, l5], [.inl x], w) (cf_qi P) ↔ P x w := Iff.trans (cf_wr (q := (some (.inl x), w)) rfl) Iff.rfl
theorem e_R_placesOfSet {a1 a2 : Int32} {w : cf_Wd} {P : Int32 → cf_Wd → Prop} (h : cf_wp T_R_placesOfSet (0, [some (.inr 11), some (.inl a1), some (.inl a2), none, none, none], [], w) (cf_qi P)) : ∃ x w1, F_R_placesOfSet [.inr 11, .inl a1, .inl a2] w = some (some (.inl x), w1) ∧ P x w1 := cf_ei rfl (Nat.le_of_ble_eq_true rfl) h
noncomputable def T_R_firstNotHarmless (pc : Nat) : cf_Rw := bif Nat.ble pc 35 then
 (bif Nat.ble pc 15 then
  (bif Nat.ble pc 7 then
   (bif Nat.ble pc 2 then
    (bif Nat.ble pc 0 then
     (bif Nat.beq pc 0 then cf_const 0 1 else cf_stuck)
     else
     (bif Nat.ble pc 1 then
      (bif Nat.beq pc 1 then cf_istore 3 2 else cf_stuck)
      else
      (bif Nat.beq pc 2 then cf_iload 3 3 else cf_stuck)))
    else
    (bif Nat.ble pc 3 then
     (bif Nat.beq pc 3 then cf_aload 0 4 else cf_stuck)
     else
     (bif Nat.ble pc 4 then
      (bif Nat.beq pc 4 then cf_get 2 2 7 else cf_stuck)
      else
      (bif Nat.beq pc 7 then cf_icge 84 10 else cf_stuck))))
   else
   (bif Nat.ble pc 12 then
    (bif Nat.ble pc 10 then
     (bif Nat.beq pc 10 then cf_aload 0 11 else cf_stuck)
     else
     (bif Nat.ble pc 11 then
      (bif Nat.beq pc 11 then cf_iload 3 12 else cf_stuck)
      else
      (bif Nat.beq pc 12 then cf_iload 2 13 else cf_stuck)))
    else
    (bif Nat.ble pc 13 then
     (bif Nat.beq pc 13 then cf_bin (fun x y => x * y) 14 else cf_stuck)
     else
     (bif Nat.ble pc 14 then
      (bif Nat.beq pc 14 then cf_aload 0 15 else cf_stuck)
      else
      (bif Nat.beq pc 15 then cf_get 2 2 18 else cf_stuck)))))
  else
  (bif Nat.ble pc 23 then
   (bif Nat.ble pc 20 then
    (bif Nat.ble pc 18 then
     (bif Nat.beq pc 18 then cf_div 19 else cf_stuck)
     else
     (bif Nat.ble pc 19 then
      (bif Nat.beq pc 19 then cf_iload 3 20 else cf_stuck)
      else
      (bif Nat.beq pc 20 then cf_const 1 21 else cf_stuck)))
    else
    (bif Nat.ble pc 21 then
     (bif Nat.beq pc 21 then cf_bin (fun x y => x + y) 22 else cf_stuck)
     else
     (bif Nat.ble pc 22 then
      (bif Nat.beq pc 22 then cf_iload 2 23 else cf_stuck)
      else
      (bif Nat.beq pc 23 then cf_bin (fun x y => x * y) 24 else cf_stuck))))
   else
   (bif Nat.ble pc 28 then
    (bif Nat.ble pc 24 then
     (bif Nat.beq pc 24 then cf_aload 0 25 else cf_stuck)
     else
     (bif Nat.ble pc 25 then
      (bif Nat.beq pc 25 then cf_get 2 2 28 else cf_stuck)
      else
      (bif Nat.beq pc 28 then cf_div 29 else cf_stuck)))
    else
    (bif Nat.ble pc 32 then
     (bif Nat.ble pc 29 then
      (bif Nat.beq pc 29 then cf_call 3 F_R_placesOfSet 32 else cf_stuck)
      else
      (bif Nat.beq pc 32 then cf_istore 4 34 else cf_stuck))
     else
     (bif Nat.ble pc 34 then
      (bif Nat.beq pc 34 then cf_iload 1 35 else cf_stuck)
      else
      (bif Nat.beq pc 35 then cf_ifeq 50 38 else cf_stuck))))))
 else
 (bif Nat.ble pc 60 then
  (bif Nat.ble pc 46 then
   (bif Nat.ble pc 42 then
    (bif Nat.ble pc 38 then
     (bif Nat.beq pc 38 then cf_aload 0 39 else cf_stuck)
     else
     (bif Nat.ble pc 39 then
      (bif Nat.beq pc 39 then cf_get 2 1 42 else cf_stuck)
      else
      (bif Nat.beq pc 42 then cf_iload 4 44 else cf_stuck)))
    else
    (bif Nat.ble pc 44 then
     (bif Nat.beq pc 44 then cf_const (-1) 45 else cf_stuck)
     else
     (bif Nat.ble pc 45 then
      (bif Nat.beq pc 45 then cf_bin (fun x y => x ^^^ y) 46 else cf_stuck)
      else
      (bif Nat.beq pc 46 then cf_bin (fun x y => x &&& y) 47 else cf_stuck))))
   else
   (bif Nat.ble pc 52 then
    (bif Nat.ble pc 47 then
     (bif Nat.beq pc 47 then cf_goto 52 else cf_stuck)
     else
     (bif Nat.ble pc 50 then
      (bif Nat.beq pc 50 then cf_iload 4 52 else cf_stuck)
      else
      (bif Nat.beq pc 52 then cf_istore 5 54 else cf_stuck)))
    else
    (bif Nat.ble pc 55 then
     (bif Nat.ble pc 54 then
      (bif Nat.beq pc 54 then cf_aload 0 55 else cf_stuck)
      else
      (bif Nat.beq pc 55 then cf_get 2 0 58 else cf_stuck))
     else
     (bif Nat.ble pc 58 then
      (bif Nat.beq pc 58 then cf_iload 5 60 else cf_stuck)
      else
      (bif Nat.beq pc 60 then cf_iald 61 else cf_stuck)))))
  else
  (bif Nat.ble pc 71 then
   (bif Nat.ble pc 65 then
    (bif Nat.ble pc 61 then
     (bif Nat.beq pc 61 then cf_ifeq 75 64 else cf_stuck)
     else
     (bif Nat.ble pc 64 then
      (bif Nat.beq pc 64 then cf_aload 0 65 else cf_stuck)
      else
      (bif Nat.beq pc 65 then cf_get 2 0 68 else cf_stuck)))
    else
    (bif Nat.ble pc 68 then
     (bif Nat.beq pc 68 then cf_iload 5 70 else cf_stuck)
     else
     (bif Nat.ble pc 70 then
      (bif Nat.beq pc 70 then cf_iald 71 else cf_stuck)
      else
      (bif Nat.beq pc 71 then cf_const 2 72 else cf_stuck))))
   else
   (bif Nat.ble pc 77 then
    (bif Nat.ble pc 72 then
     (bif Nat.beq pc 72 then cf_icne 78 75 else cf_stuck)
     else
     (bif Nat.ble pc 75 then
      (bif Nat.beq pc 75 then cf_iload 5 77 else cf_stuck)
      else
      (bif Nat.beq pc 77 then cf_iret else cf_stuck)))
    else
    (bif Nat.ble pc 81 then
     (bif Nat.ble pc 78 then
      (bif Nat.beq pc 78 then cf_iinc 3 1 81 else cf_stuck)
      else
      (bif Nat.beq pc 81 then cf_goto 2 else cf_stuck))
     else
     (bif Nat.ble pc 84 then
      (bif Nat.beq pc 84 then cf_const 0 85 else cf_stuck)
      else
      (bif Nat.beq pc 85 then cf_iret else cf_stuck))))))
noncomputable def F_R_firstNotHarmless : List cf_AV → cf_Wd → Option cf_Rs := cf_F T_R_firstNotHarmless 6 (some .int) (cf_shV 11 2)
theorem r_R_firstNotHarmless_0 {l0 l1 l2 l3 l4 l5 : Option cf_AV} {st : List cf_AV} {w : cf_Wd} {Q : cf_Rs → Prop} : cf_wp T_R_firstNotHarmless (0, [l0, l1, l2, l3, l4, l5], st, w) Q ↔ cf_wp T_R_firstNotHarmless (1, [l0, l1, l2, l3, l4, l5], .inl 0 :: st, w) Q := cf_w1 rfl
theorem r_R_firstNotHarmless_1 {l0 l1 l2 l3 l4 l5 : Option cf_AV} {x : Int32} {st : List cf_AV} {w : cf_Wd} {Q : cf_Rs → Prop} : cf_wp T_R_firstNotHarmless (1, [l0, l1, l2, l3, l4, l5], .inl x :: st, w) Q ↔ cf_wp T_R_firstNotHarmless (2, [l0, l1, l2, some (.inl x), l4, l5], st, w) Q := cf_w1 rfl
theorem r_R_firstNotHarmless_2 {l0 l1 l2 l4 l5 : Option cf_AV} {x : Int32} {st : List cf_AV} {w : cf_Wd} {Q : cf_Rs → Prop} : cf_wp T_R_firstNotHarmless (2, [l0, l1, l2, some (.inl x), l4, l5], st, w) Q ↔ cf_wp T_R_firstNotHarmless (3, [l0, l1, l2, some (.inl x), l4, l5], .inl x :: st, w) Q := cf_w1 rfl
theorem r_R_firstNotHarmless_3 {l1 l2 l3 l4 l5 : Option cf_AV} {k : Nat} {st : List cf_AV} {w : cf_Wd} {Q : cf_Rs → Prop} : cf_wp T_R_firstNotHarmless (3, [some (.inr k), l1, l2, l3, l4, l5], st, w) Q ↔ cf_wp T_R_firstNotHarmless (4, [some (.inr k), l1, l2, l3, l4, l5], .inr k :: st, w) Q := cf_w1 rfl
theorem r_R_firstNotHarmless_4 {l0 l1 l2 l3 l4 l5 : Option cf_AV} {st : List cf_AV} {w : cf_Wd} {Q : cf_Rs → Prop} : cf_wp T_R_firstNotHarmless (4, [l0, l1, l2, l3, l4, l5], .inr 11 :: st, w) Q ↔ cf_wp T_R_firstNotHarmless (7, [l0, l1, l2, l3, l4, l5], .inl (w 11 2) :: st, w) Q := cf_w1 rfl
theorem r_R_firstNotHarmless_7 {l0 l1 l2 l3 l4 l5 : Option cf_AV} {x y : Int32} {st : List cf_AV} {w : cf_Wd} {Q : cf_Rs → Prop} : cf_wp T_R_firstNotHarmless (7, [l0, l1, l2, l3, l4, l5], .inl y :: .inl x :: st, w) Q ↔ (if y ≤ x then cf_wp T_R_firstNotHarmless (84, [l0, l1, l2, l3, l4, l5], st, w) Q else cf_wp T_R_firstNotHarmless (10, [l0, l1, l2, l3, l4, l5], st, w) Q) := cf_wi rfl
theorem r_R_firstNotHarmless_10 {l1 l2 l3 l4 l5 : Option cf_AV} {k : Nat} {st : List cf_AV} {w : cf_Wd} {Q : cf_Rs → Prop} : cf_wp T_R_firstNotHarmless (10, [some (.inr k), l1, l2, l3, l4, l5], st, w) Q ↔ cf_wp T_R_firstNotHarmless (11, [some (.inr k), l1, l2, l3, l4, l5], .inr k :: st, w) Q := cf_w1 rfl
theorem r_R_firstNotHarmless_11 {l0 l1 l2 l4 l5 : Option cf_AV} {x : Int32} {st : List cf_AV} {w : cf_Wd} {Q : cf_Rs → Prop} : cf_wp T_R_firstNotHarmless (11, [l0, l1, l2, some (.inl x), l4, l5], st, w) Q ↔ cf_wp T_R_firstNotHarmless (12, [l0, l1, l2, some (.inl x), l4, l5], .inl x :: st, w) Q := cf_w1 rfl
theorem r_R_firstNotHarmless_12 {l0 l1 l3 l4 l5 : Option cf_AV} {x : Int32} {st : List cf_AV} {w : cf_Wd} {Q : cf_Rs → Prop} : cf_wp T_R_firstNotHarmless (12, [l0, l1, some (.inl x), l3, l4, l5], st, w) Q ↔ cf_wp T_R_firstNotHarmless (13, [l0, l1, some (.inl x), l3, l4, l5], .inl x :: st, w) Q := cf_w1 rfl
theorem r_R_firstNotHarmless_13 {l0 l1 l2 l3 l4 l5 : Option cf_AV} {x y : Int32} {st : List cf_AV} {w : cf_Wd} {Q : cf_Rs → Prop} : cf_wp T_R_firstNotHarmless (13, [l0, l1, l2, l3, l4, l5], .inl y :: .inl x :: st, w) Q ↔ cf_wp T_R_firstNotHarmless (14, [l0, l1, l2, l3, l4, l5], .inl (x * y) :: st, w) Q := cf_w1 rfl
theorem r_R_firstNotHarmless_14 {l1 l2 l3 l4 l5 : Option cf_AV} {k : Nat} {st : List cf_AV} {w : cf_Wd} {Q : cf_Rs → Prop} : cf_wp T_R_firstNotHarmless (14, [some (.inr k), l1, l2, l3, l4, l5], st, w) Q ↔ cf_wp T_R_firstNotHarmless (15, [some (.inr k), l1, l2, l3, l4, l5], .inr k :: st, w) Q := cf_w1 rfl
theorem r_R_firstNotHarmless_15 {l0 l1 l2 l3 l4 l5 : Option cf_AV} {st : List cf_AV} {w : cf_Wd} {Q : cf_Rs → Prop} : cf_wp T_R_firstNotHarmless (15, [l0, l1, l2, l3, l4, l5], .inr 11 :: st, w) Q ↔ cf_wp T_R_firstNotHarmless (18, [l0, l1, l2, l3, l4, l5], .inl (w 11 2) :: st, w) Q := cf_w1 rfl
theorem r_R_firstNotHarmless_18 {l0 l1 l2 l3 l4 l5 : Option cf_AV} {x y : Int32} {st : List cf_AV} {w : cf_Wd} {Q : cf_Rs → Prop} : cf_wp T_R_firstNotHarmless (18, [l0, l1, l2, l3, l4, l5], .inl y :: .inl x :: st, w) Q ↔ ((!(y == 0)) = true ∧ cf_wp T_R_firstNotHarmless (19, [l0, l1, l2, l3, l4, l5], .inl (x / y) :: st, w) Q) := cf_wg rfl
theorem r_R_firstNotHarmless_19 {l0 l1 l2 l4 l5 : Option cf_AV} {x : Int32} {st : List cf_AV} {w : cf_Wd} {Q : cf_Rs → Prop} : cf_wp T_R_firstNotHarmless (19, [l0, l1, l2, some (.inl x), l4, l5], st, w) Q ↔ cf_wp T_R_firstNotHarmless (20, [l0, l1, l2, some (.inl x), l4, l5], .inl x :: st, w) Q := cf_w1 rfl
theorem r_R_firstNotHarmless_20 {l0 l1 l2 l3 l4 l5 : Option cf_AV} {st : List cf_AV} {w : cf_Wd} {Q : cf_Rs → Prop} : cf_wp T_R_firstNotHarmless (20, [l0, l1, l2, l3, l4, l5], st, w) Q ↔ cf_wp T_R_firstNotHarmless (21, [l0, l1, l2, l3, l4, l5], .inl 1 :: st, w) Q := cf_w1 rfl
theorem r_R_firstNotHarmless_21 {l0 l1 l2 l3 l4 l5 : Option cf_AV} {x y : Int32} {st : List cf_AV} {w : cf_Wd} {Q : cf_Rs → Prop} : cf_wp T_R_firstNotHarmless (21, [l0, l1, l2, l3, l4, l5], .inl y :: .inl x :: st, w) Q ↔ cf_wp T_R_firstNotHarmless (22, [l0, l1, l2, l3, l4, l5], .inl (x + y) :: st, w) Q := cf_w1 rfl
theorem r_R_firstNotHarmless_22 {l0 l1 l3 l4 l5 : Option cf_AV} {x : Int32} {st : List cf_AV} {w : cf_Wd} {Q : cf_Rs → Prop} : cf_wp T_R_firstNotHarmless (22, [l0, l1, some (.inl x), l3, l4, l5], st, w) Q ↔ cf_wp T_R_firstNotHarmless (23, [l0, l1, some (.inl x), l3, l4, l5], .inl x :: st, w) Q := cf_w1 rfl
theorem r_R_firstNotHarmless_23 {l0 l1 l2 l3 l4 l5 : Option cf_AV} {x y : Int32} {st : List cf_AV} {w : cf_Wd} {Q : cf_Rs → Prop} : cf_wp T_R_firstNotHarmless (23, [l0, l1, l2, l3, l4, l5], .inl y :: .inl x :: st, w) Q ↔ cf_wp T_R_firstNotHarmless (24, [l0, l1, l2, l3, l4, l5], .inl (x * y) :: st, w) Q := cf_w1 rfl
theorem r_R_firstNotHarmless_24 {l1 l2 l3 l4 l5 : Option cf_AV} {k : Nat} {st : List cf_AV} {w : cf_Wd} {Q : cf_Rs → Prop} : cf_wp T_R_firstNotHarmless (24, [some (.inr k), l1, l2, l3, l4, l5], st, w) Q ↔ cf_wp T_R_firstNotHarmless (25, [some (.inr k), l1, l2, l3, l4, l5], .inr k :: st, w) Q := cf_w1 rfl
theorem r_R_firstNotHarmless_25 {l0 l1 l2 l3 l4 l5 : Option cf_AV} {st : List cf_AV} {w : cf_Wd} {Q : cf_Rs → Prop} : cf_wp T_R_firstNotHarmless (25, [l0, l1, l2, l3, l4, l5], .inr 11 :: st, w) Q ↔ cf_wp T_R_firstNotHarmless (28, [l0, l1, l2, l3, l4, l5], .inl (w 11 2) :: st, w) Q := cf_w1 rfl
theorem r_R_firstNotHarmless_28 {l0 l1 l2 l3 l4 l5 : Option cf_AV} {x y : Int32} {st : List cf_AV} {w : cf_Wd} {Q : cf_Rs → Prop} : cf_wp T_R_firstNotHarmless (28, [l0, l1, l2, l3, l4, l5], .inl y :: .inl x :: st, w) Q ↔ ((!(y == 0)) = true ∧ cf_wp T_R_firstNotHarmless (29, [l0, l1, l2, l3, l4, l5], .inl (x / y) :: st, w) Q) := cf_wg rfl
theorem r_R_firstNotHarmless_29 {l0 l1 l2 l3 l4 l5 : Option cf_AV} {a2 a1 : Int32} {w : cf_Wd} {Q : cf_Rs → Prop} : cf_wp T_R_firstNotHarmless (29, [l0, l1, l2, l3, l4, l5], [.inl a2, .inl a1, .inr 11], w) Q ↔ ∃ x w1, F_R_placesOfSet [.inr 11, .inl a1, .inl a2] w = some (some (.inl x), w1) ∧ cf_wp T_R_firstNotHarmless (32, [l0, l1, l2, l3, l4, l5], [.inl x], w1) Q := cf_wci (n := 3) (F := F_R_placesOfSet) (nx := 32) rfl rfl cf_F_i
theorem c_R_firstNotHarmless_29 {l0 l1 l2 l3 l4 l5 : Option cf_AV} {a2 a1 : Int32} {x1 : Int32} {w1 : cf_Wd} {w : cf_Wd} {Q : cf_Rs → Prop} (hs : F_R_placesOfSet [.inr 11, .inl a1, .inl a2] w = some (some (.inl x1), w1)) : cf_wp T_R_firstNotHarmless (29, [l0, l1, l2, l3, l4, l5], [.inl a2, .inl a1, .inr 11], w) Q ↔ cf_wp T_R_firstNotHarmless (32, [l0, l1, l2, l3, l4, l5], [.inl x1], w1) Q := r_R_firstNotHarmless_29.trans (cf_xi hs)
theorem r_R_firstNotHarmless_32 {l0 l1 l2 l3 l4 l5 : Option cf_AV} {x : Int32} {st : List cf_AV} {w : cf_Wd} {Q : cf_Rs → Prop} : cf_wp T_R_firstNotHarmless (32, [l0, l1, l2, l3, l4, l5], .inl x :: st, w) Q ↔ cf_wp T_R_firstNotHarmless (34, [l0, l1, l2, l3, some (.inl x), l5], st, w) Q := cf_w1 rfl
theorem r_R_firstNotHarmless_34 {l0 l2 l3 l4 l5 : Option cf_AV} {x : Int32} {st : List cf_AV} {w : cf_Wd} {Q : cf_Rs → Prop} : cf_wp T_R_firstNotHarmless (34, [l0, some (.inl x), l2, l3, l4, l5], st, w) Q ↔ cf_wp T_R_firstNotHarmless (35, [l0, some (.inl x), l2, l3, l4, l5], .inl x :: st, w) Q := cf_w1 rfl
theorem r_R_firstNotHarmless_35 {l0 l1 l2 l3 l4 l5 : Option cf_AV} {x : Int32} {st : List cf_AV} {w : cf_Wd} {Q : cf_Rs → Prop} : cf_wp T_R_firstNotHarmless (35, [l0, l1, l2, l3, l4, l5], .inl x :: st, w) Q ↔ (if x = 0 then cf_wp T_R_firstNotHarmless (50, [l0, l1, l2, l3, l4, l5], st, w) Q else cf_wp T_R_firstNotHarmless (38, [l0, l1, l2, l3, l4, l5], st, w) Q) := cf_wi rfl
theorem r_R_firstNotHarmless_38 {l1 l2 l3 l4 l5 : Option cf_AV} {k : Nat} {st : List cf_AV} {w : cf_Wd} {Q : cf_Rs → Prop} : cf_wp T_R_firstNotHarmless (38, [some (.inr k), l1, l2, l3, l4, l5], st, w) Q ↔ cf_wp T_R_firstNotHarmless (39, [some (.inr k), l1, l2, l3, l4, l5], .inr k :: st, w) Q := cf_w1 rfl
theorem r_R_firstNotHarmless_39 {l0 l1 l2 l3 l4 l5 : Option cf_AV} {st : List cf_AV} {w : cf_Wd} {Q : cf_Rs → Prop} : cf_wp T_R_firstNotHarmless (39, [l0, l1, l2, l3, l4, l5], .inr 11 :: st, w) Q ↔ cf_wp T_R_firstNotHarmless (42, [l0, l1, l2, l3, l4, l5], .inl (w 11 1) :: st, w) Q := cf_w1 rfl
theorem r_R_firstNotHarmless_42 {l0 l1 l2 l3 l5 : Option cf_AV} {x : Int32} {st : List cf_AV} {w : cf_Wd} {Q : cf_Rs → Prop} : cf_wp T_R_firstNotHarmless (42, [l0, l1, l2, l3, some (.inl x), l5], st, w) Q ↔ cf_wp T_R_firstNotHarmless (44, [l0, l1, l2, l3, some (.inl x), l5], .inl x :: st, w) Q := cf_w1 rfl
theorem r_R_firstNotHarmless_44 {l0 l1 l2 l3 l4 l5 : Option cf_AV} {st : List cf_AV} {w : cf_Wd} {Q : cf_Rs → Prop} : cf_wp T_R_firstNotHarmless (44, [l0, l1, l2, l3, l4, l5], st, w) Q ↔ cf_wp T_R_firstNotHarmless (45, [l0, l1, l2, l3, l4, l5], .inl (-1) :: st, w) Q := cf_w1 rfl
theorem r_R_firstNotHarmless_45 {l0 l1 l2 l3 l4 l5 : Option cf_AV} {x y : Int32} {st : List cf_AV} {w : cf_Wd} {Q : cf_Rs → Prop} : cf_wp T_R_firstNotHarmless (45, [l0, l1, l2, l3, l4, l5], .inl y :: .inl x :: st, w) Q ↔ cf_wp T_R_firstNotHarmless (46, [l0, l1, l2, l3, l4, l5], .inl (x ^^^ y) :: st, w) Q := cf_w1 rfl
theorem r_R_firstNotHarmless_46 {l0 l1 l2 l3 l4 l5 : Option cf_AV} {x y : Int32} {st : List cf_AV} {w : cf_Wd} {Q : cf_Rs → Prop} : cf_wp T_R_firstNotHarmless (46, [l0, l1, l2, l3, l4, l5], .inl y :: .inl x :: st, w) Q ↔ cf_wp T_R_firstNotHarmless (47, [l0, l1, l2, l3, l4, l5], .inl (x &&& y) :: st, w) Q := cf_w1 rfl
theorem r_R_firstNotHarmless_47 {l0 l1 l2 l3 l4 l5 : Option cf_AV} {st : List cf_AV} {w : cf_Wd} {Q : cf_Rs → Prop} : cf_wp T_R_firstNotHarmless (47, [l0, l1, l2, l3, l4, l5], st, w) Q ↔ cf_wp T_R_firstNotHarmless (52, [l0, l1, l2, l3, l4, l5], st, w) Q := cf_w1 rfl
theorem r_R_firstNotHarmless_50 {l0 l1 l2 l3 l5 : Option cf_AV} {x : Int32} {st : List cf_AV} {w : cf_Wd} {Q : cf_Rs → Prop} : cf_wp T_R_firstNotHarmless (50, [l0, l1, l2, l3, some (.inl x), l5], st, w) Q ↔ cf_wp T_R_firstNotHarmless (52, [l0, l1, l2, l3, some (.inl x), l5], .inl x :: st, w) Q := cf_w1 rfl
theorem r_R_firstNotHarmless_52 {l0 l1 l2 l3 l4 l5 : Option cf_AV} {x : Int32} {st : List cf_AV} {w : cf_Wd} {Q : cf_Rs → Prop} : cf_wp T_R_firstNotHarmless (52, [l0, l1, l2, l3, l4, l5], .inl x :: st, w) Q ↔ cf_wp T_R_firstNotHarmless (54, [l0, l1, l2, l3, l4, some (.inl x)], st, w) Q := cf_w1 rfl
theorem r_R_firstNotHarmless_54 {l1 l2 l3 l4 l5 : Option cf_AV} {k : Nat} {st : List cf_AV} {w : cf_Wd} {Q : cf_Rs → Prop} : cf_wp T_R_firstNotHarmless (54, [some (.inr k), l1, l2, l3, l4, l5], st, w) Q ↔ cf_wp T_R_firstNotHarmless (55, [some (.inr k), l1, l2, l3, l4, l5], .inr k :: st, w) Q := cf_w1 rfl
theorem r_R_firstNotHarmless_55 {l0 l1 l2 l3 l4 l5 : Option cf_AV} {st : List cf_AV} {w : cf_Wd} {Q : cf_Rs → Prop} : cf_wp T_R_firstNotHarmless (55, [l0, l1, l2, l3, l4, l5], .inr 11 :: st, w) Q ↔ cf_wp T_R_firstNotHarmless (58, [l0, l1, l2, l3, l4, l5], .inr 12 :: st, w) Q := cf_w1 rfl
theorem r_R_firstNotHarmless_58 {l0 l1 l2 l3 l4 : Option cf_AV} {x : Int32} {st : List cf_AV} {w : cf_Wd} {Q : cf_Rs → Prop} : cf_wp T_R_firstNotHarmless (58, [l0, l1, l2, l3, l4, some (.inl x)], st, w) Q ↔ cf_wp T_R_firstNotHarmless (60, [l0, l1, l2, l3, l4, some (.inl x)], .inl x :: st, w) Q := cf_w1 rfl
theorem r_R_firstNotHarmless_60 {l0 l1 l2 l3 l4 l5 : Option cf_AV} {i : Int32} {st : List cf_AV} {w : cf_Wd} {Q : cf_Rs → Prop} : cf_wp T_R_firstNotHarmless (60, [l0, l1, l2, l3, l4, l5], .inl i :: .inr 12 :: st, w) Q ↔ (cf_in i 256 = true ∧ cf_wp T_R_firstNotHarmless (61, [l0, l1, l2, l3, l4, l5], .inl (w 12 i.toNatClampNeg) :: st, w) Q) := cf_wg rfl
theorem r_R_firstNotHarmless_61 {l0 l1 l2 l3 l4 l5 : Option cf_AV} {x : Int32} {st : List cf_AV} {w : cf_Wd} {Q : cf_Rs → Prop} : cf_wp T_R_firstNotHarmless (61, [l0, l1, l2, l3, l4, l5], .inl x :: st, w) Q ↔ (if x = 0 then cf_wp T_R_firstNotHarmless (75, [l0, l1, l2, l3, l4, l5], st, w) Q else cf_wp T_R_firstNotHarmless (64, [l0, l1, l2, l3, l4, l5], st, w) Q) := cf_wi rfl
theorem r_R_firstNotHarmless_64 {l1 l2 l3 l4 l5 : Option cf_AV} {k : Nat} {st : List cf_AV} {w : cf_Wd} {Q : cf_Rs → Prop} : cf_wp T_R_firstNotHarmless (64, [some (.inr k), l1, l2, l3, l4, l5], st, w) Q ↔ cf_wp T_R_firstNotHarmless (65, [some (.inr k), l1, l2, l3, l4, l5], .inr k :: st, w) Q := cf_w1 rfl
theorem r_R_firstNotHarmless_65 {l0 l1 l2 l3 l4 l5 : Option cf_AV} {st : List cf_AV} {w : cf_Wd} {Q : cf_Rs → Prop} : cf_wp T_R_firstNotHarmless (65, [l0, l1, l2, l3, l4, l5], .inr 11 :: st, w) Q ↔ cf_wp T_R_firstNotHarmless (68, [l0, l1, l2, l3, l4, l5], .inr 12 :: st, w) Q := cf_w1 rfl
theorem r_R_firstNotHarmless_68 {l0 l1 l2 l3 l4 : Option cf_AV} {x : Int32} {st : List cf_AV} {w : cf_Wd} {Q : cf_Rs → Prop} : cf_wp T_R_firstNotHarmless (68, [l0, l1, l2, l3, l4, some (.inl x)], st, w) Q ↔ cf_wp T_R_firstNotHarmless (70, [l0, l1, l2, l3, l4, some (.inl x)], .inl x :: st, w) Q := cf_w1 rfl
theorem r_R_firstNotHarmless_70 {l0 l1 l2 l3 l4 l5 : Option cf_AV} {i : Int32} {st : List cf_AV} {w : cf_Wd} {Q : cf_Rs → Prop} : cf_wp T_R_firstNotHarmless (70, [l0, l1, l2, l3, l4, l5], .inl i :: .inr 12 :: st, w) Q ↔ (cf_in i 256 = true ∧ cf_wp T_R_firstNotHarmless (71, [l0, l1, l2, l3, l4, l5], .inl (w 12 i.toNatClampNeg) :: st, w) Q) := cf_wg rfl
theorem r_R_firstNotHarmless_71 {l0 l1 l2 l3 l4 l5 : Option cf_AV} {st : List cf_AV} {w : cf_Wd} {Q : cf_Rs → Prop} : cf_wp T_R_firstNotHarmless (71, [l0, l1, l2, l3, l4, l5], st, w) Q ↔ cf_wp T_R_firstNotHarmless (72, [l0, l1, l2, l3, l4, l5], .inl 2 :: st, w) Q := cf_w1 rfl
theorem r_R_firstNotHarmless_72 {l0 l1 l2 l3 l4 l5 : Option cf_AV} {x y : Int32} {st : List cf_AV} {w : cf_Wd} {Q : cf_Rs → Prop} : cf_wp T_R_firstNotHarmless (72, [l0, l1, l2, l3, l4, l5], .inl y :: .inl x :: st, w) Q ↔ (if ¬ x = y then cf_wp T_R_firstNotHarmless (78, [l0, l1, l2, l3, l4, l5], st, w) Q else cf_wp T_R_firstNotHarmless (75, [l0, l1, l2, l3, l4, l5], st, w) Q) := cf_wi rfl
theorem r_R_firstNotHarmless_75 {l0 l1 l2 l3 l4 : Option cf_AV} {x : Int32} {st : List cf_AV} {w : cf_Wd} {Q : cf_Rs → Prop} : cf_wp T_R_firstNotHarmless (75, [l0, l1, l2, l3, l4, some (.inl x)], st, w) Q ↔ cf_wp T_R_firstNotHarmless (77, [l0, l1, l2, l3, l4, some (.inl x)], .inl x :: st, w) Q := cf_w1 rfl
theorem r_R_firstNotHarmless_77 {l0 l1 l2 l3 l4 l5 : Option cf_AV} {x : Int32} {w : cf_Wd} {P : Int32 → cf_Wd → Prop} : cf_wp T_R_firstNotHarmless (77, [l0, l1, l2, l3, l4, l5], [.inl x], w) (cf_qi P) ↔ P x w := Iff.trans (cf_wr (q := (some (.inl x), w)) rfl) Iff.rfl
theorem r_R_firstNotHarmless_78 {l0 l1 l2 l4 l5 : Option cf_AV} {x : Int32} {st : List cf_AV} {w : cf_Wd} {Q : cf_Rs → Prop} : cf_wp T_R_firstNotHarmless (78, [l0, l1, l2, some (.inl x), l4, l5], st, w) Q ↔ cf_wp T_R_firstNotHarmless (81, [l0, l1, l2, some (.inl (x + 1)), l4, l5], st, w) Q := cf_w1 rfl
theorem r_R_firstNotHarmless_81 {l0 l1 l2 l3 l4 l5 : Option cf_AV} {st : List cf_AV} {w : cf_Wd} {Q : cf_Rs → Prop} : cf_wp T_R_firstNotHarmless (81, [l0, l1, l2, l3, l4, l5], st, w) Q ↔ cf_wp T_R_firstNotHarmless (2, [l0, l1, l2, l3, l4, l5], st, w) Q := cf_w1 rfl
theorem r_R_firstNotHarmless_84 {l0 l1 l2 l3 l4 l5 : Option cf_AV} {st : List cf_AV} {w : cf_Wd} {Q : cf_Rs → Prop} : cf_wp T_R_firstNotHarmless (84, [l0, l1, l2, l3, l4, l5], st, w) Q ↔ cf_wp T_R_firstNotHarmless (85, [l0, l1, l2, l3, l4, l5], .inl 0 :: st, w) Q := cf_w1 rfl
theorem r_R_firstNotHarmless_85 {l0 l1 l2 l3 l4 l5 : Option cf_AV} {x : Int32} {w : cf_Wd} {P : Int32 → cf_Wd → Prop} : cf_wp T_R_firstNotHarmless (85, [l0, l1, l2, l3, l4, l5], [.inl x], w) (cf_qi P) ↔ P x w := Iff.trans (cf_wr (q := (some (.inl x), w)) rfl) Iff.rfl
theorem e_R_firstNotHarmless {a1 a2 : Int32} {w : cf_Wd} {P : Int32 → cf_Wd → Prop} (h : cf_wp T_R_firstNotHarmless (0, [some (.inr 11), some (.inl a1), some (.inl a2), none, none, none], [], w) (cf_qi P)) : ∃ x w1, F_R_firstNotHarmless [.inr 11, .inl a1, .inl a2] w = some (some (.inl x), w1) ∧ P x w1 := cf_ei rfl (Nat.le_of_ble_eq_true rfl) h
noncomputable def T_R_follow (pc : Nat) : cf_Rw := bif Nat.ble pc 65 then
 (bif Nat.ble pc 31 then
  (bif Nat.ble pc 12 then
   (bif Nat.ble pc 5 then
    (bif Nat.ble pc 1 then
     (bif Nat.ble pc 0 then
      (bif Nat.beq pc 0 then cf_aload 0 1 else cf_stuck)
      else
      (bif Nat.beq pc 1 then cf_iload 1 2 else cf_stuck))
     else
     (bif Nat.ble pc 2 then
      (bif Nat.beq pc 2 then cf_put 2 1 5 else cf_stuck)
      else
      (bif Nat.beq pc 5 then cf_aload 0 6 else cf_stuck)))
    else
    (bif Nat.ble pc 7 then
     (bif Nat.ble pc 6 then
      (bif Nat.beq pc 6 then cf_const 2 7 else cf_stuck)
      else
      (bif Nat.beq pc 7 then cf_put 2 2 10 else cf_stuck))
     else
     (bif Nat.ble pc 10 then
      (bif Nat.beq pc 10 then cf_const 0 11 else cf_stuck)
      else
      (bif Nat.ble pc 11 then
       (bif Nat.beq pc 11 then cf_istore 2 12 else cf_stuck)
       else
       (bif Nat.beq pc 12 then cf_iload 2 13 else cf_stuck)))))
   else
   (bif Nat.ble pc 22 then
    (bif Nat.ble pc 15 then
     (bif Nat.ble pc 13 then
      (bif Nat.beq pc 13 then cf_const 64 15 else cf_stuck)
      else
      (bif Nat.beq pc 15 then cf_icge 140 18 else cf_stuck))
     else
     (bif Nat.ble pc 18 then
      (bif Nat.beq pc 18 then cf_aload 0 19 else cf_stuck)
      else
      (bif Nat.ble pc 19 then
       (bif Nat.beq pc 19 then cf_get 2 1 22 else cf_stuck)
       else
       (bif Nat.beq pc 22 then cf_call 1 F_J_bitCount 25 else cf_stuck))))
    else
    (bif Nat.ble pc 26 then
     (bif Nat.ble pc 25 then
      (bif Nat.beq pc 25 then cf_istore 3 26 else cf_stuck)
      else
      (bif Nat.beq pc 26 then cf_iload 3 27 else cf_stuck))
     else
     (bif Nat.ble pc 27 then
      (bif Nat.beq pc 27 then cf_const 1 28 else cf_stuck)
      else
      (bif Nat.ble pc 28 then
       (bif Nat.beq pc 28 then cf_icgt 33 31 else cf_stuck)
       else
       (bif Nat.beq pc 31 then cf_const (-1) 32 else cf_stuck))))))
  else
  (bif Nat.ble pc 46 then
   (bif Nat.ble pc 37 then
    (bif Nat.ble pc 33 then
     (bif Nat.ble pc 32 then
      (bif Nat.beq pc 32 then cf_iret else cf_stuck)
      else
      (bif Nat.beq pc 33 then cf_const 0 34 else cf_stuck))
     else
     (bif Nat.ble pc 34 then
      (bif Nat.beq pc 34 then cf_istore 4 36 else cf_stuck)
      else
      (bif Nat.ble pc 36 then
       (bif Nat.beq pc 36 then cf_aload 0 37 else cf_stuck)
       else
       (bif Nat.beq pc 37 then cf_const 0 38 else cf_stuck))))
    else
    (bif Nat.ble pc 39 then
     (bif Nat.ble pc 38 then
      (bif Nat.beq pc 38 then cf_iload 3 39 else cf_stuck)
      else
      (bif Nat.beq pc 39 then cf_call 3 F_R_firstNotHarmless 42 else cf_stuck))
     else
     (bif Nat.ble pc 42 then
      (bif Nat.beq pc 42 then cf_istore 5 44 else cf_stuck)
      else
      (bif Nat.ble pc 44 then
       (bif Nat.beq pc 44 then cf_iload 5 46 else cf_stuck)
       else
       (bif Nat.beq pc 46 then cf_ifne 60 49 else cf_stuck)))))
   else
   (bif Nat.ble pc 54 then
    (bif Nat.ble pc 50 then
     (bif Nat.ble pc 49 then
      (bif Nat.beq pc 49 then cf_const 1 50 else cf_stuck)
      else
      (bif Nat.beq pc 50 then cf_istore 4 52 else cf_stuck))
     else
     (bif Nat.ble pc 52 then
      (bif Nat.beq pc 52 then cf_aload 0 53 else cf_stuck)
      else
      (bif Nat.ble pc 53 then
       (bif Nat.beq pc 53 then cf_const 1 54 else cf_stuck)
       else
       (bif Nat.beq pc 54 then cf_iload 3 55 else cf_stuck))))
    else
    (bif Nat.ble pc 58 then
     (bif Nat.ble pc 55 then
      (bif Nat.beq pc 55 then cf_call 3 F_R_firstNotHarmless 58 else cf_stuck)
      else
      (bif Nat.beq pc 58 then cf_istore 5 60 else cf_stuck))
     else
     (bif Nat.ble pc 60 then
      (bif Nat.beq pc 60 then cf_iload 5 62 else cf_stuck)
      else
      (bif Nat.ble pc 62 then
       (bif Nat.beq pc 62 then cf_ifne 92 65 else cf_stuck)
       else
       (bif Nat.beq pc 65 then cf_aload 0 66 else cf_stuck)))))))
 else
 (bif Nat.ble pc 102 then
  (bif Nat.ble pc 81 then
   (bif Nat.ble pc 74 then
    (bif Nat.ble pc 69 then
     (bif Nat.ble pc 66 then
      (bif Nat.beq pc 66 then cf_get 2 2 69 else cf_stuck)
      else
      (bif Nat.beq pc 69 then cf_iload 3 70 else cf_stuck))
     else
     (bif Nat.ble pc 70 then
      (bif Nat.beq pc 70 then cf_iclt 75 73 else cf_stuck)
      else
      (bif Nat.ble pc 73 then
       (bif Nat.beq pc 73 then cf_const (-1) 74 else cf_stuck)
       else
       (bif Nat.beq pc 74 then cf_iret else cf_stuck))))
    else
    (bif Nat.ble pc 76 then
     (bif Nat.ble pc 75 then
      (bif Nat.beq pc 75 then cf_aload 0 76 else cf_stuck)
      else
      (bif Nat.beq pc 76 then cf_const 2 77 else cf_stuck))
     else
     (bif Nat.ble pc 77 then
      (bif Nat.beq pc 77 then cf_aload 0 78 else cf_stuck)
      else
      (bif Nat.ble pc 78 then
       (bif Nat.beq pc 78 then cf_get 2 2 81 else cf_stuck)
       else
       (bif Nat.beq pc 81 then cf_bin (fun x y => x * y) 82 else cf_stuck)))))
   else
   (bif Nat.ble pc 92 then
    (bif Nat.ble pc 83 then
     (bif Nat.ble pc 82 then
      (bif Nat.beq pc 82 then cf_iload 3 83 else cf_stuck)
      else
      (bif Nat.beq pc 83 then cf_mmn 86 else cf_stuck))
     else
     (bif Nat.ble pc 86 then
      (bif Nat.beq pc 86 then cf_put 2 2 89 else cf_stuck)
      else
      (bif Nat.ble pc 89 then
       (bif Nat.beq pc 89 then cf_goto 134 else cf_stuck)
       else
       (bif Nat.beq pc 92 then cf_aload 0 93 else cf_stuck))))
    else
    (bif Nat.ble pc 96 then
     (bif Nat.ble pc 93 then
      (bif Nat.beq pc 93 then cf_get 2 0 96 else cf_stuck)
      else
      (bif Nat.beq pc 96 then cf_iload 5 98 else cf_stuck))
     else
     (bif Nat.ble pc 98 then
      (bif Nat.beq pc 98 then cf_iald 99 else cf_stuck)
      else
      (bif Nat.ble pc 99 then
       (bif Nat.beq pc 99 then cf_ifne 105 102 else cf_stuck)
       else
       (bif Nat.beq pc 102 then cf_iload 5 104 else cf_stuck))))))
  else
  (bif Nat.ble pc 121 then
   (bif Nat.ble pc 111 then
    (bif Nat.ble pc 105 then
     (bif Nat.ble pc 104 then
      (bif Nat.beq pc 104 then cf_iret else cf_stuck)
      else
      (bif Nat.beq pc 105 then cf_aload 0 106 else cf_stuck))
     else
     (bif Nat.ble pc 106 then
      (bif Nat.beq pc 106 then cf_iload 5 108 else cf_stuck)
      else
      (bif Nat.ble pc 108 then
       (bif Nat.beq pc 108 then cf_put 2 1 111 else cf_stuck)
       else
       (bif Nat.beq pc 111 then cf_aload 0 112 else cf_stuck))))
    else
    (bif Nat.ble pc 114 then
     (bif Nat.ble pc 112 then
      (bif Nat.beq pc 112 then cf_iload 4 114 else cf_stuck)
      else
      (bif Nat.beq pc 114 then cf_ifeq 130 117 else cf_stuck))
     else
     (bif Nat.ble pc 117 then
      (bif Nat.beq pc 117 then cf_aload 0 118 else cf_stuck)
      else
      (bif Nat.ble pc 118 then
       (bif Nat.beq pc 118 then cf_get 2 2 121 else cf_stuck)
       else
       (bif Nat.beq pc 121 then cf_const 1 122 else cf_stuck)))))
   else
   (bif Nat.ble pc 130 then
    (bif Nat.ble pc 123 then
     (bif Nat.ble pc 122 then
      (bif Nat.beq pc 122 then cf_bin (fun x y => x - y) 123 else cf_stuck)
      else
      (bif Nat.beq pc 123 then cf_const 2 124 else cf_stuck))
     else
     (bif Nat.ble pc 124 then
      (bif Nat.beq pc 124 then cf_mmx 127 else cf_stuck)
      else
      (bif Nat.ble pc 127 then
       (bif Nat.beq pc 127 then cf_goto 131 else cf_stuck)
       else
       (bif Nat.beq pc 130 then cf_const 2 131 else cf_stuck))))
    else
    (bif Nat.ble pc 134 then
     (bif Nat.ble pc 131 then
      (bif Nat.beq pc 131 then cf_put 2 2 134 else cf_stuck)
      else
      (bif Nat.beq pc 134 then cf_iinc 2 1 137 else cf_stuck))
     else
     (bif Nat.ble pc 137 then
      (bif Nat.beq pc 137 then cf_goto 12 else cf_stuck)
      else
      (bif Nat.ble pc 140 then
       (bif Nat.beq pc 140 then cf_const (-1) 141 else cf_stuck)
       else
       (bif Nat.beq pc 141 then cf_iret else cf_stuck)))))))
noncomputable def F_R_follow : List cf_AV → cf_Wd → Option cf_Rs := cf_F T_R_follow 6 (some .int) (cf_shV 11 1)
theorem r_R_follow_0 {l1 l2 l3 l4 l5 : Option cf_AV} {k : Nat} {st : List cf_AV} {w : cf_Wd} {Q : cf_Rs → Prop} : cf_wp T_R_follow (0, [some (.inr k), l1, l2, l3, l4, l5], st, w) Q ↔ cf_wp T_R_follow (1, [some (.inr k), l1, l2, l3, l4, l5], .inr k :: st, w) Q := cf_w1 rfl
theorem r_R_follow_1 {l0 l2 l3 l4 l5 : Option cf_AV} {x : Int32} {st : List cf_AV} {w : cf_Wd} {Q : cf_Rs → Prop} : cf_wp T_R_follow (1, [l0, some (.inl x), l2, l3, l4, l5], st, w) Q ↔ cf_wp T_R_follow (2, [l0, some (.inl x), l2, l3, l4, l5], .inl x :: st, w) Q := cf_w1 rfl
theorem r_R_follow_2 {l0 l1 l2 l3 l4 l5 : Option cf_AV} {x : Int32} {st : List cf_AV} {w : cf_Wd} {Q : cf_Rs → Prop} : cf_wp T_R_follow (2, [l0, l1, l2, l3, l4, l5], .inl x :: .inr 11 :: st, w) Q ↔ cf_wp T_R_follow (5, [l0, l1, l2, l3, l4, l5], st, (cf_wa w 11 (upd (w 11) 1 x))) Q := cf_w1 rfl
theorem r_R_follow_5 {l1 l2 l3 l4 l5 : Option cf_AV} {k : Nat} {st : List cf_AV} {w : cf_Wd} {Q : cf_Rs → Prop} : cf_wp T_R_follow (5, [some (.inr k), l1, l2, l3, l4, l5], st, w) Q ↔ cf_wp T_R_follow (6, [some (.inr k), l1, l2, l3, l4, l5], .inr k :: st, w) Q := cf_w1 rfl
theorem r_R_follow_6 {l0 l1 l2 l3 l4 l5 : Option cf_AV} {st : List cf_AV} {w : cf_Wd} {Q : cf_Rs → Prop} : cf_wp T_R_follow (6, [l0, l1, l2, l3, l4, l5], st, w) Q ↔ cf_wp T_R_follow (7, [l0, l1, l2, l3, l4, l5], .inl 2 :: st, w) Q := cf_w1 rfl
theorem r_R_follow_7 {l0 l1 l2 l3 l4 l5 : Option cf_AV} {x : Int32} {st : List cf_AV} {w : cf_Wd} {Q : cf_Rs → Prop} : cf_wp T_R_follow (7, [l0, l1, l2, l3, l4, l5], .inl x :: .inr 11 :: st, w) Q ↔ cf_wp T_R_follow (10, [l0, l1, l2, l3, l4, l5], st, (cf_wa w 11 (upd (w 11) 2 x))) Q := cf_w1 rfl
theorem r_R_follow_10 {l0 l1 l2 l3 l4 l5 : Option cf_AV} {st : List cf_AV} {w : cf_Wd} {Q : cf_Rs → Prop} : cf_wp T_R_follow (10, [l0, l1, l2, l3, l4, l5], st, w) Q ↔ cf_wp T_R_follow (11, [l0, l1, l2, l3, l4, l5], .inl 0 :: st, w) Q := cf_w1 rfl
theorem r_R_follow_11 {l0 l1 l2 l3 l4 l5 : Option cf_AV} {x : Int32} {st : List cf_AV} {w : cf_Wd} {Q : cf_Rs → Prop} : cf_wp T_R_follow (11, [l0, l1, l2, l3, l4, l5], .inl x :: st, w) Q ↔ cf_wp T_R_follow (12, [l0, l1, some (.inl x), l3, l4, l5], st, w) Q := cf_w1 rfl
theorem r_R_follow_12 {l0 l1 l3 l4 l5 : Option cf_AV} {x : Int32} {st : List cf_AV} {w : cf_Wd} {Q : cf_Rs → Prop} : cf_wp T_R_follow (12, [l0, l1, some (.inl x), l3, l4, l5], st, w) Q ↔ cf_wp T_R_follow (13, [l0, l1, some (.inl x), l3, l4, l5], .inl x :: st, w) Q := cf_w1 rfl
theorem r_R_follow_13 {l0 l1 l2 l3 l4 l5 : Option cf_AV} {st : List cf_AV} {w : cf_Wd} {Q : cf_Rs → Prop} : cf_wp T_R_follow (13, [l0, l1, l2, l3, l4, l5], st, w) Q ↔ cf_wp T_R_follow (15, [l0, l1, l2, l3, l4, l5], .inl 64 :: st, w) Q := cf_w1 rfl
theorem r_R_follow_15 {l0 l1 l2 l3 l4 l5 : Option cf_AV} {x y : Int32} {st : List cf_AV} {w : cf_Wd} {Q : cf_Rs → Prop} : cf_wp T_R_follow (15, [l0, l1, l2, l3, l4, l5], .inl y :: .inl x :: st, w) Q ↔ (if y ≤ x then cf_wp T_R_follow (140, [l0, l1, l2, l3, l4, l5], st, w) Q else cf_wp T_R_follow (18, [l0, l1, l2, l3, l4, l5], st, w) Q) := cf_wi rfl
theorem r_R_follow_18 {l1 l2 l3 l4 l5 : Option cf_AV} {k : Nat} {st : List cf_AV} {w : cf_Wd} {Q : cf_Rs → Prop} : cf_wp T_R_follow (18, [some (.inr k), l1, l2, l3, l4, l5], st, w) Q ↔ cf_wp T_R_follow (19, [some (.inr k), l1, l2, l3, l4, l5], .inr k :: st, w) Q := cf_w1 rfl
theorem r_R_follow_19 {l0 l1 l2 l3 l4 l5 : Option cf_AV} {st : List cf_AV} {w : cf_Wd} {Q : cf_Rs → Prop} : cf_wp T_R_follow (19, [l0, l1, l2, l3, l4, l5], .inr 11 :: st, w) Q ↔ cf_wp T_R_follow (22, [l0, l1, l2, l3, l4, l5], .inl (w 11 1) :: st, w) Q := cf_w1 rfl
theorem r_R_follow_22 {l0 l1 l2 l3 l4 l5 : Option cf_AV} {a0 : Int32} {w : cf_Wd} {Q : cf_Rs → Prop} : cf_wp T_R_follow (22, [l0, l1, l2, l3, l4, l5], [.inl a0], w) Q ↔ ∃ x w1, F_J_bitCount [.inl a0] w = some (some (.inl x), w1) ∧ cf_wp T_R_follow (25, [l0, l1, l2, l3, l4, l5], [.inl x], w1) Q := cf_wci (n := 1) (F := F_J_bitCount) (nx := 25) rfl rfl cf_F_i
theorem c_R_follow_22 {l0 l1 l2 l3 l4 l5 : Option cf_AV} {a0 : Int32} {x1 : Int32} {w1 : cf_Wd} {w : cf_Wd} {Q : cf_Rs → Prop} (hs : F_J_bitCount [.inl a0] w = some (some (.inl x1), w1)) : cf_wp T_R_follow (22, [l0, l1, l2, l3, l4, l5], [.inl a0], w) Q ↔ cf_wp T_R_follow (25, [l0, l1, l2, l3, l4, l5], [.inl x1], w1) Q := r_R_follow_22.trans (cf_xi hs)
theorem r_R_follow_25 {l0 l1 l2 l3 l4 l5 : Option cf_AV} {x : Int32} {st : List cf_AV} {w : cf_Wd} {Q : cf_Rs → Prop} : cf_wp T_R_follow (25, [l0, l1, l2, l3, l4, l5], .inl x :: st, w) Q ↔ cf_wp T_R_follow (26, [l0, l1, l2, some (.inl x), l4, l5], st, w) Q := cf_w1 rfl
theorem r_R_follow_26 {l0 l1 l2 l4 l5 : Option cf_AV} {x : Int32} {st : List cf_AV} {w : cf_Wd} {Q : cf_Rs → Prop} : cf_wp T_R_follow (26, [l0, l1, l2, some (.inl x), l4, l5], st, w) Q ↔ cf_wp T_R_follow (27, [l0, l1, l2, some (.inl x), l4, l5], .inl x :: st, w) Q := cf_w1 rfl
theorem r_R_follow_27 {l0 l1 l2 l3 l4 l5 : Option cf_AV} {st : List cf_AV} {w : cf_Wd} {Q : cf_Rs → Prop} : cf_wp T_R_follow (27, [l0, l1, l2, l3, l4, l5], st, w) Q ↔ cf_wp T_R_follow (28, [l0, l1, l2, l3, l4, l5], .inl 1 :: st, w) Q := cf_w1 rfl
theorem r_R_follow_28 {l0 l1 l2 l3 l4 l5 : Option cf_AV} {x y : Int32} {st : List cf_AV} {w : cf_Wd} {Q : cf_Rs → Prop} : cf_wp T_R_follow (28, [l0, l1, l2, l3, l4, l5], .inl y :: .inl x :: st, w) Q ↔ (if y < x then cf_wp T_R_follow (33, [l0, l1, l2, l3, l4, l5], st, w) Q else cf_wp T_R_follow (31, [l0, l1, l2, l3, l4, l5], st, w) Q) := cf_wi rfl
theorem r_R_follow_31 {l0 l1 l2 l3 l4 l5 : Option cf_AV} {st : List cf_AV} {w : cf_Wd} {Q : cf_Rs → Prop} : cf_wp T_R_follow (31, [l0, l1, l2, l3, l4, l5], st, w) Q ↔ cf_wp T_R_follow (32, [l0, l1, l2, l3, l4, l5], .inl (-1) :: st, w) Q := cf_w1 rfl
theorem r_R_follow_32 {l0 l1 l2 l3 l4 l5 : Option cf_AV} {x : Int32} {w : cf_Wd} {P : Int32 → cf_Wd → Prop} : cf_wp T_R_follow (32, [l0, l1, l2, l3, l4, l5], [.inl x], w) (cf_qi P) ↔ P x w := Iff.trans (cf_wr (q := (some (.inl x), w)) rfl) Iff.rfl
theorem r_R_follow_33 {l0 l1 l2 l3 l4 l5 : Option cf_AV} {st : List cf_AV} {w : cf_Wd} {Q : cf_Rs → Prop} : cf_wp T_R_follow (33, [l0, l1, l2, l3, l4, l5], st, w) Q ↔ cf_wp T_R_follow (34, [l0, l1, l2, l3, l4, l5], .inl 0 :: st, w) Q := cf_w1 rfl
theorem r_R_follow_34 {l0 l1 l2 l3 l4 l5 : Option cf_AV} {x : Int32} {st : List cf_AV} {w : cf_Wd} {Q : cf_Rs → Prop} : cf_wp T_R_follow (34, [l0, l1, l2, l3, l4, l5], .inl x :: st, w) Q ↔ cf_wp T_R_follow (36, [l0, l1, l2, l3, some (.inl x), l5], st, w) Q := cf_w1 rfl
theorem r_R_follow_36 {l1 l2 l3 l4 l5 : Option cf_AV} {k : Nat} {st : List cf_AV} {w : cf_Wd} {Q : cf_Rs → Prop} : cf_wp T_R_follow (36, [some (.inr k), l1, l2, l3, l4, l5], st, w) Q ↔ cf_wp T_R_follow (37, [some (.inr k), l1, l2, l3, l4, l5], .inr k :: st, w) Q := cf_w1 rfl
theorem r_R_follow_37 {l0 l1 l2 l3 l4 l5 : Option cf_AV} {st : List cf_AV} {w : cf_Wd} {Q : cf_Rs → Prop} : cf_wp T_R_follow (37, [l0, l1, l2, l3, l4, l5], st, w) Q ↔ cf_wp T_R_follow (38, [l0, l1, l2, l3, l4, l5], .inl 0 :: st, w) Q := cf_w1 rfl
theorem r_R_follow_38 {l0 l1 l2 l4 l5 : Option cf_AV} {x : Int32} {st : List cf_AV} {w : cf_Wd} {Q : cf_Rs → Prop} : cf_wp T_R_follow (38, [l0, l1, l2, some (.inl x), l4, l5], st, w) Q ↔ cf_wp T_R_follow (39, [l0, l1, l2, some (.inl x), l4, l5], .inl x :: st, w) Q := cf_w1 rfl
theorem r_R_follow_39 {l0 l1 l2 l3 l4 l5 : Option cf_AV} {a2 a1 : Int32} {w : cf_Wd} {Q : cf_Rs → Prop} : cf_wp T_R_follow (39, [l0, l1, l2, l3, l4, l5], [.inl a2, .inl a1, .inr 11], w) Q ↔ ∃ x w1, F_R_firstNotHarmless [.inr 11, .inl a1, .inl a2] w = some (some (.inl x), w1) ∧ cf_wp T_R_follow (42, [l0, l1, l2, l3, l4, l5], [.inl x], w1) Q := cf_wci (n := 3) (F := F_R_firstNotHarmless) (nx := 42) rfl rfl cf_F_i
theorem c_R_follow_39 {l0 l1 l2 l3 l4 l5 : Option cf_AV} {a2 a1 : Int32} {x1 : Int32} {w1 : cf_Wd} {w : cf_Wd} {Q : cf_Rs → Prop} (hs : F_R_firstNotHarmless [.inr 11, .inl a1, .inl a2] w = some (some (.inl x1), w1)) : cf_wp T_R_follow (39, [l0, l1, l2, l3, l4, l5], [.inl a2, .inl a1, .inr 11], w) Q ↔ cf_wp T_R_follow (42, [l0, l1, l2, l3, l4, l5], [.inl x1], w1) Q := r_R_follow_39.trans (cf_xi hs)
theorem r_R_follow_42 {l0 l1 l2 l3 l4 l5 : Option cf_AV} {x : Int32} {st : List cf_AV} {w : cf_Wd} {Q : cf_Rs → Prop} : cf_wp T_R_follow (42, [l0, l1, l2, l3, l4, l5], .inl x :: st, w) Q ↔ cf_wp T_R_follow (44, [l0, l1, l2, l3, l4, some (.inl x)], st, w) Q := cf_w1 rfl
theorem r_R_follow_44 {l0 l1 l2 l3 l4 : Option cf_AV} {x : Int32} {st : List cf_AV} {w : cf_Wd} {Q : cf_Rs → Prop} : cf_wp T_R_follow (44, [l0, l1, l2, l3, l4, some (.inl x)], st, w) Q ↔ cf_wp T_R_follow (46, [l0, l1, l2, l3, l4, some (.inl x)], .inl x :: st, w) Q := cf_w1 rfl
theorem r_R_follow_46 {l0 l1 l2 l3 l4 l5 : Option cf_AV} {x : Int32} {st : List cf_AV} {w : cf_Wd} {Q : cf_Rs → Prop} : cf_wp T_R_follow (46, [l0, l1, l2, l3, l4, l5], .inl x :: st, w) Q ↔ (if ¬ x = 0 then cf_wp T_R_follow (60, [l0, l1, l2, l3, l4, l5], st, w) Q else cf_wp T_R_follow (49, [l0, l1, l2, l3, l4, l5], st, w) Q) := cf_wi rfl
theorem r_R_follow_49 {l0 l1 l2 l3 l4 l5 : Option cf_AV} {st : List cf_AV} {w : cf_Wd} {Q : cf_Rs → Prop} : cf_wp T_R_follow (49, [l0, l1, l2, l3, l4, l5], st, w) Q ↔ cf_wp T_R_follow (50, [l0, l1, l2, l3, l4, l5], .inl 1 :: st, w) Q := cf_w1 rfl
theorem r_R_follow_50 {l0 l1 l2 l3 l4 l5 : Option cf_AV} {x : Int32} {st : List cf_AV} {w : cf_Wd} {Q : cf_Rs → Prop} : cf_wp T_R_follow (50, [l0, l1, l2, l3, l4, l5], .inl x :: st, w) Q ↔ cf_wp T_R_follow (52, [l0, l1, l2, l3, some (.inl x), l5], st, w) Q := cf_w1 rfl
theorem r_R_follow_52 {l1 l2 l3 l4 l5 : Option cf_AV} {k : Nat} {st : List cf_AV} {w : cf_Wd} {Q : cf_Rs → Prop} : cf_wp T_R_follow (52, [some (.inr k), l1, l2, l3, l4, l5], st, w) Q ↔ cf_wp T_R_follow (53, [some (.inr k), l1, l2, l3, l4, l5], .inr k :: st, w) Q := cf_w1 rfl
theorem r_R_follow_53 {l0 l1 l2 l3 l4 l5 : Option cf_AV} {st : List cf_AV} {w : cf_Wd} {Q : cf_Rs → Prop} : cf_wp T_R_follow (53, [l0, l1, l2, l3, l4, l5], st, w) Q ↔ cf_wp T_R_follow (54, [l0, l1, l2, l3, l4, l5], .inl 1 :: st, w) Q := cf_w1 rfl
theorem r_R_follow_54 {l0 l1 l2 l4 l5 : Option cf_AV} {x : Int32} {st : List cf_AV} {w : cf_Wd} {Q : cf_Rs → Prop} : cf_wp T_R_follow (54, [l0, l1, l2, some (.inl x), l4, l5], st, w) Q ↔ cf_wp T_R_follow (55, [l0, l1, l2, some (.inl x), l4, l5], .inl x :: st, w) Q := cf_w1 rfl
theorem r_R_follow_55 {l0 l1 l2 l3 l4 l5 : Option cf_AV} {a2 a1 : Int32} {w : cf_Wd} {Q : cf_Rs → Prop} : cf_wp T_R_follow (55, [l0, l1, l2, l3, l4, l5], [.inl a2, .inl a1, .inr 11], w) Q ↔ ∃ x w1, F_R_firstNotHarmless [.inr 11, .inl a1, .inl a2] w = some (some (.inl x), w1) ∧ cf_wp T_R_follow (58, [l0, l1, l2, l3, l4, l5], [.inl x], w1) Q := cf_wci (n := 3) (F := F_R_firstNotHarmless) (nx := 58) rfl rfl cf_F_i
theorem c_R_follow_55 {l0 l1 l2 l3 l4 l5 : Option cf_AV} {a2 a1 : Int32} {x1 : Int32} {w1 : cf_Wd} {w : cf_Wd} {Q : cf_Rs → Prop} (hs : F_R_firstNotHarmless [.inr 11, .inl a1, .inl a2] w = some (some (.inl x1), w1)) : cf_wp T_R_follow (55, [l0, l1, l2, l3, l4, l5], [.inl a2, .inl a1, .inr 11], w) Q ↔ cf_wp T_R_follow (58, [l0, l1, l2, l3, l4, l5], [.inl x1], w1) Q := r_R_follow_55.trans (cf_xi hs)
theorem r_R_follow_58 {l0 l1 l2 l3 l4 l5 : Option cf_AV} {x : Int32} {st : List cf_AV} {w : cf_Wd} {Q : cf_Rs → Prop} : cf_wp T_R_follow (58, [l0, l1, l2, l3, l4, l5], .inl x :: st, w) Q ↔ cf_wp T_R_follow (60, [l0, l1, l2, l3, l4, some (.inl x)], st, w) Q := cf_w1 rfl
theorem r_R_follow_60 {l0 l1 l2 l3 l4 : Option cf_AV} {x : Int32} {st : List cf_AV} {w : cf_Wd} {Q : cf_Rs → Prop} : cf_wp T_R_follow (60, [l0, l1, l2, l3, l4, some (.inl x)], st, w) Q ↔ cf_wp T_R_follow (62, [l0, l1, l2, l3, l4, some (.inl x)], .inl x :: st, w) Q := cf_w1 rfl
theorem r_R_follow_62 {l0 l1 l2 l3 l4 l5 : Option cf_AV} {x : Int32} {st : List cf_AV} {w : cf_Wd} {Q : cf_Rs → Prop} : cf_wp T_R_follow (62, [l0, l1, l2, l3, l4, l5], .inl x :: st, w) Q ↔ (if ¬ x = 0 then cf_wp T_R_follow (92, [l0, l1, l2, l3, l4, l5], st, w) Q else cf_wp T_R_follow (65, [l0, l1, l2, l3, l4, l5], st, w) Q) := cf_wi rfl
theorem r_R_follow_65 {l1 l2 l3 l4 l5 : Option cf_AV} {k : Nat} {st : List cf_AV} {w : cf_Wd} {Q : cf_Rs → Prop} : cf_wp T_R_follow (65, [some (.inr k), l1, l2, l3, l4, l5], st, w) Q ↔ cf_wp T_R_follow (66, [some (.inr k), l1, l2, l3, l4, l5], .inr k :: st, w) Q := cf_w1 rfl
theorem r_R_follow_66 {l0 l1 l2 l3 l4 l5 : Option cf_AV} {st : List cf_AV} {w : cf_Wd} {Q : cf_Rs → Prop} : cf_wp T_R_follow (66, [l0, l1, l2, l3, l4, l5], .inr 11 :: st, w) Q ↔ cf_wp T_R_follow (69, [l0, l1, l2, l3, l4, l5], .inl (w 11 2) :: st, w) Q := cf_w1 rfl
theorem r_R_follow_69 {l0 l1 l2 l4 l5 : Option cf_AV} {x : Int32} {st : List cf_AV} {w : cf_Wd} {Q : cf_Rs → Prop} : cf_wp T_R_follow (69, [l0, l1, l2, some (.inl x), l4, l5], st, w) Q ↔ cf_wp T_R_follow (70, [l0, l1, l2, some (.inl x), l4, l5], .inl x :: st, w) Q := cf_w1 rfl
theorem r_R_follow_70 {l0 l1 l2 l3 l4 l5 : Option cf_AV} {x y : Int32} {st : List cf_AV} {w : cf_Wd} {Q : cf_Rs → Prop} : cf_wp T_R_follow (70, [l0, l1, l2, l3, l4, l5], .inl y :: .inl x :: st, w) Q ↔ (if x < y then cf_wp T_R_follow (75, [l0, l1, l2, l3, l4, l5], st, w) Q else cf_wp T_R_follow (73, [l0, l1, l2, l3, l4, l5], st, w) Q) := cf_wi rfl
theorem r_R_follow_73 {l0 l1 l2 l3 l4 l5 : Option cf_AV} {st : List cf_AV} {w : cf_Wd} {Q : cf_Rs → Prop} : cf_wp T_R_follow (73, [l0, l1, l2, l3, l4, l5], st, w) Q ↔ cf_wp T_R_follow (74, [l0, l1, l2, l3, l4, l5], .inl (-1) :: st, w) Q := cf_w1 rfl
theorem r_R_follow_74 {l0 l1 l2 l3 l4 l5 : Option cf_AV} {x : Int32} {w : cf_Wd} {P : Int32 → cf_Wd → Prop} : cf_wp T_R_follow (74, [l0, l1, l2, l3, l4, l5], [.inl x], w) (cf_qi P) ↔ P x w := Iff.trans (cf_wr (q := (some (.inl x), w)) rfl) Iff.rfl
theorem r_R_follow_75 {l1 l2 l3 l4 l5 : Option cf_AV} {k : Nat} {st : List cf_AV} {w : cf_Wd} {Q : cf_Rs → Prop} : cf_wp T_R_follow (75, [some (.inr k), l1, l2, l3, l4, l5], st, w) Q ↔ cf_wp T_R_follow (76, [some (.inr k), l1, l2, l3, l4, l5], .inr k :: st, w) Q := cf_w1 rfl
theorem r_R_follow_76 {l0 l1 l2 l3 l4 l5 : Option cf_AV} {st : List cf_AV} {w : cf_Wd} {Q : cf_Rs → Prop} : cf_wp T_R_follow (76, [l0, l1, l2, l3, l4, l5], st, w) Q ↔ cf_wp T_R_follow (77, [l0, l1, l2, l3, l4, l5], .inl 2 :: st, w) Q := cf_w1 rfl
theorem r_R_follow_77 {l1 l2 l3 l4 l5 : Option cf_AV} {k : Nat} {st : List cf_AV} {w : cf_Wd} {Q : cf_Rs → Prop} : cf_wp T_R_follow (77, [some (.inr k), l1, l2, l3, l4, l5], st, w) Q ↔ cf_wp T_R_follow (78, [some (.inr k), l1, l2, l3, l4, l5], .inr k :: st, w) Q := cf_w1 rfl
theorem r_R_follow_78 {l0 l1 l2 l3 l4 l5 : Option cf_AV} {st : List cf_AV} {w : cf_Wd} {Q : cf_Rs → Prop} : cf_wp T_R_follow (78, [l0, l1, l2, l3, l4, l5], .inr 11 :: st, w) Q ↔ cf_wp T_R_follow (81, [l0, l1, l2, l3, l4, l5], .inl (w 11 2) :: st, w) Q := cf_w1 rfl
theorem r_R_follow_81 {l0 l1 l2 l3 l4 l5 : Option cf_AV} {x y : Int32} {st : List cf_AV} {w : cf_Wd} {Q : cf_Rs → Prop} : cf_wp T_R_follow (81, [l0, l1, l2, l3, l4, l5], .inl y :: .inl x :: st, w) Q ↔ cf_wp T_R_follow (82, [l0, l1, l2, l3, l4, l5], .inl (x * y) :: st, w) Q := cf_w1 rfl
theorem r_R_follow_82 {l0 l1 l2 l4 l5 : Option cf_AV} {x : Int32} {st : List cf_AV} {w : cf_Wd} {Q : cf_Rs → Prop} : cf_wp T_R_follow (82, [l0, l1, l2, some (.inl x), l4, l5], st, w) Q ↔ cf_wp T_R_follow (83, [l0, l1, l2, some (.inl x), l4, l5], .inl x :: st, w) Q := cf_w1 rfl
theorem r_R_follow_83 {l0 l1 l2 l3 l4 l5 : Option cf_AV} {x y : Int32} {t0 : cf_AV} {w : cf_Wd} {Q : cf_Rs → Prop} : cf_wp T_R_follow (83, [l0, l1, l2, l3, l4, l5], [.inl y, .inl x, t0], w) Q ↔ cf_wp T_R_follow (86, [l0, l1, l2, l3, l4, l5], [.inl (if y < x then y else x), t0], w) Q := cf_w1 rfl
theorem r_R_follow_86 {l0 l1 l2 l3 l4 l5 : Option cf_AV} {x : Int32} {st : List cf_AV} {w : cf_Wd} {Q : cf_Rs → Prop} : cf_wp T_R_follow (86, [l0, l1, l2, l3, l4, l5], .inl x :: .inr 11 :: st, w) Q ↔ cf_wp T_R_follow (89, [l0, l1, l2, l3, l4, l5], st, (cf_wa w 11 (upd (w 11) 2 x))) Q := cf_w1 rfl
theorem r_R_follow_89 {l0 l1 l2 l3 l4 l5 : Option cf_AV} {st : List cf_AV} {w : cf_Wd} {Q : cf_Rs → Prop} : cf_wp T_R_follow (89, [l0, l1, l2, l3, l4, l5], st, w) Q ↔ cf_wp T_R_follow (134, [l0, l1, l2, l3, l4, l5], st, w) Q := cf_w1 rfl
theorem r_R_follow_92 {l1 l2 l3 l4 l5 : Option cf_AV} {k : Nat} {st : List cf_AV} {w : cf_Wd} {Q : cf_Rs → Prop} : cf_wp T_R_follow (92, [some (.inr k), l1, l2, l3, l4, l5], st, w) Q ↔ cf_wp T_R_follow (93, [some (.inr k), l1, l2, l3, l4, l5], .inr k :: st, w) Q := cf_w1 rfl
theorem r_R_follow_93 {l0 l1 l2 l3 l4 l5 : Option cf_AV} {st : List cf_AV} {w : cf_Wd} {Q : cf_Rs → Prop} : cf_wp T_R_follow (93, [l0, l1, l2, l3, l4, l5], .inr 11 :: st, w) Q ↔ cf_wp T_R_follow (96, [l0, l1, l2, l3, l4, l5], .inr 12 :: st, w) Q := cf_w1 rfl
theorem r_R_follow_96 {l0 l1 l2 l3 l4 : Option cf_AV} {x : Int32} {st : List cf_AV} {w : cf_Wd} {Q : cf_Rs → Prop} : cf_wp T_R_follow (96, [l0, l1, l2, l3, l4, some (.inl x)], st, w) Q ↔ cf_wp T_R_follow (98, [l0, l1, l2, l3, l4, some (.inl x)], .inl x :: st, w) Q := cf_w1 rfl
theorem r_R_follow_98 {l0 l1 l2 l3 l4 l5 : Option cf_AV} {i : Int32} {st : List cf_AV} {w : cf_Wd} {Q : cf_Rs → Prop} : cf_wp T_R_follow (98, [l0, l1, l2, l3, l4, l5], .inl i :: .inr 12 :: st, w) Q ↔ (cf_in i 256 = true ∧ cf_wp T_R_follow (99, [l0, l1, l2, l3, l4, l5], .inl (w 12 i.toNatClampNeg) :: st, w) Q) := cf_wg rfl
theorem r_R_follow_99 {l0 l1 l2 l3 l4 l5 : Option cf_AV} {x : Int32} {st : List cf_AV} {w : cf_Wd} {Q : cf_Rs → Prop} : cf_wp T_R_follow (99, [l0, l1, l2, l3, l4, l5], .inl x :: st, w) Q ↔ (if ¬ x = 0 then cf_wp T_R_follow (105, [l0, l1, l2, l3, l4, l5], st, w) Q else cf_wp T_R_follow (102, [l0, l1, l2, l3, l4, l5], st, w) Q) := cf_wi rfl
theorem r_R_follow_102 {l0 l1 l2 l3 l4 : Option cf_AV} {x : Int32} {st : List cf_AV} {w : cf_Wd} {Q : cf_Rs → Prop} : cf_wp T_R_follow (102, [l0, l1, l2, l3, l4, some (.inl x)], st, w) Q ↔ cf_wp T_R_follow (104, [l0, l1, l2, l3, l4, some (.inl x)], .inl x :: st, w) Q := cf_w1 rfl
theorem r_R_follow_104 {l0 l1 l2 l3 l4 l5 : Option cf_AV} {x : Int32} {w : cf_Wd} {P : Int32 → cf_Wd → Prop} : cf_wp T_R_follow (104, [l0, l1, l2, l3, l4, l5], [.inl x], w) (cf_qi P) ↔ P x w := Iff.trans (cf_wr (q := (some (.inl x), w)) rfl) Iff.rfl
theorem r_R_follow_105 {l1 l2 l3 l4 l5 : Option cf_AV} {k : Nat} {st : List cf_AV} {w : cf_Wd} {Q : cf_Rs → Prop} : cf_wp T_R_follow (105, [some (.inr k), l1, l2, l3, l4, l5], st, w) Q ↔ cf_wp T_R_follow (106, [some (.inr k), l1, l2, l3, l4, l5], .inr k :: st, w) Q := cf_w1 rfl
theorem r_R_follow_106 {l0 l1 l2 l3 l4 : Option cf_AV} {x : Int32} {st : List cf_AV} {w : cf_Wd} {Q : cf_Rs → Prop} : cf_wp T_R_follow (106, [l0, l1, l2, l3, l4, some (.inl x)], st, w) Q ↔ cf_wp T_R_follow (108, [l0, l1, l2, l3, l4, some (.inl x)], .inl x :: st, w) Q := cf_w1 rfl
theorem r_R_follow_108 {l0 l1 l2 l3 l4 l5 : Option cf_AV} {x : Int32} {st : List cf_AV} {w : cf_Wd} {Q : cf_Rs → Prop} : cf_wp T_R_follow (108, [l0, l1, l2, l3, l4, l5], .inl x :: .inr 11 :: st, w) Q ↔ cf_wp T_R_follow (111, [l0, l1, l2, l3, l4, l5], st, (cf_wa w 11 (upd (w 11) 1 x))) Q := cf_w1 rfl
theorem r_R_follow_111 {l1 l2 l3 l4 l5 : Option cf_AV} {k : Nat} {st : List cf_AV} {w : cf_Wd} {Q : cf_Rs → Prop} : cf_wp T_R_follow (111, [some (.inr k), l1, l2, l3, l4, l5], st, w) Q ↔ cf_wp T_R_follow (112, [some (.inr k), l1, l2, l3, l4, l5], .inr k :: st, w) Q := cf_w1 rfl
theorem r_R_follow_112 {l0 l1 l2 l3 l5 : Option cf_AV} {x : Int32} {st : List cf_AV} {w : cf_Wd} {Q : cf_Rs → Prop} : cf_wp T_R_follow (112, [l0, l1, l2, l3, some (.inl x), l5], st, w) Q ↔ cf_wp T_R_follow (114, [l0, l1, l2, l3, some (.inl x), l5], .inl x :: st, w) Q := cf_w1 rfl
theorem r_R_follow_114 {l0 l1 l2 l3 l4 l5 : Option cf_AV} {x : Int32} {st : List cf_AV} {w : cf_Wd} {Q : cf_Rs → Prop} : cf_wp T_R_follow (114, [l0, l1, l2, l3, l4, l5], .inl x :: st, w) Q ↔ (if x = 0 then cf_wp T_R_follow (130, [l0, l1, l2, l3, l4, l5], st, w) Q else cf_wp T_R_follow (117, [l0, l1, l2, l3, l4, l5], st, w) Q) := cf_wi rfl
theorem r_R_follow_117 {l1 l2 l3 l4 l5 : Option cf_AV} {k : Nat} {st : List cf_AV} {w : cf_Wd} {Q : cf_Rs → Prop} : cf_wp T_R_follow (117, [some (.inr k), l1, l2, l3, l4, l5], st, w) Q ↔ cf_wp T_R_follow (118, [some (.inr k), l1, l2, l3, l4, l5], .inr k :: st, w) Q := cf_w1 rfl
theorem r_R_follow_118 {l0 l1 l2 l3 l4 l5 : Option cf_AV} {st : List cf_AV} {w : cf_Wd} {Q : cf_Rs → Prop} : cf_wp T_R_follow (118, [l0, l1, l2, l3, l4, l5], .inr 11 :: st, w) Q ↔ cf_wp T_R_follow (121, [l0, l1, l2, l3, l4, l5], .inl (w 11 2) :: st, w) Q := cf_w1 rfl
theorem r_R_follow_121 {l0 l1 l2 l3 l4 l5 : Option cf_AV} {st : List cf_AV} {w : cf_Wd} {Q : cf_Rs → Prop} : cf_wp T_R_follow (121, [l0, l1, l2, l3, l4, l5], st, w) Q ↔ cf_wp T_R_follow (122, [l0, l1, l2, l3, l4, l5], .inl 1 :: st, w) Q := cf_w1 rfl
theorem r_R_follow_122 {l0 l1 l2 l3 l4 l5 : Option cf_AV} {x y : Int32} {st : List cf_AV} {w : cf_Wd} {Q : cf_Rs → Prop} : cf_wp T_R_follow (122, [l0, l1, l2, l3, l4, l5], .inl y :: .inl x :: st, w) Q ↔ cf_wp T_R_follow (123, [l0, l1, l2, l3, l4, l5], .inl (x - y) :: st, w) Q := cf_w1 rfl
theorem r_R_follow_123 {l0 l1 l2 l3 l4 l5 : Option cf_AV} {st : List cf_AV} {w : cf_Wd} {Q : cf_Rs → Prop} : cf_wp T_R_follow (123, [l0, l1, l2, l3, l4, l5], st, w) Q ↔ cf_wp T_R_follow (124, [l0, l1, l2, l3, l4, l5], .inl 2 :: st, w) Q := cf_w1 rfl
theorem r_R_follow_124 {l0 l1 l2 l3 l4 l5 : Option cf_AV} {x y : Int32} {t0 : cf_AV} {w : cf_Wd} {Q : cf_Rs → Prop} : cf_wp T_R_follow (124, [l0, l1, l2, l3, l4, l5], [.inl y, .inl x, t0], w) Q ↔ cf_wp T_R_follow (127, [l0, l1, l2, l3, l4, l5], [.inl (if x < y then y else x), t0], w) Q := cf_w1 rfl
theorem r_R_follow_127 {l0 l1 l2 l3 l4 l5 : Option cf_AV} {st : List cf_AV} {w : cf_Wd} {Q : cf_Rs → Prop} : cf_wp T_R_follow (127, [l0, l1, l2, l3, l4, l5], st, w) Q ↔ cf_wp T_R_follow (131, [l0, l1, l2, l3, l4, l5], st, w) Q := cf_w1 rfl
theorem r_R_follow_130 {l0 l1 l2 l3 l4 l5 : Option cf_AV} {st : List cf_AV} {w : cf_Wd} {Q : cf_Rs → Prop} : cf_wp T_R_follow (130, [l0, l1, l2, l3, l4, l5], st, w) Q ↔ cf_wp T_R_follow (131, [l0, l1, l2, l3, l4, l5], .inl 2 :: st, w) Q := cf_w1 rfl
theorem r_R_follow_131 {l0 l1 l2 l3 l4 l5 : Option cf_AV} {x : Int32} {st : List cf_AV} {w : cf_Wd} {Q : cf_Rs → Prop} : cf_wp T_R_follow (131, [l0, l1, l2, l3, l4, l5], .inl x :: .inr 11 :: st, w) Q ↔ cf_wp T_R_follow (134, [l0, l1, l2, l3, l4, l5], st, (cf_wa w 11 (upd (w 11) 2 x))) Q := cf_w1 rfl
theorem r_R_follow_134 {l0 l1 l3 l4 l5 : Option cf_AV} {x : Int32} {st : List cf_AV} {w : cf_Wd} {Q : cf_Rs → Prop} : cf_wp T_R_follow (134, [l0, l1, some (.inl x), l3, l4, l5], st, w) Q ↔ cf_wp T_R_follow (137, [l0, l1, some (.inl (x + 1)), l3, l4, l5], st, w) Q := cf_w1 rfl
theorem r_R_follow_137 {l0 l1 l2 l3 l4 l5 : Option cf_AV} {st : List cf_AV} {w : cf_Wd} {Q : cf_Rs → Prop} : cf_wp T_R_follow (137, [l0, l1, l2, l3, l4, l5], st, w) Q ↔ cf_wp T_R_follow (12, [l0, l1, l2, l3, l4, l5], st, w) Q := cf_w1 rfl
theorem r_R_follow_140 {l0 l1 l2 l3 l4 l5 : Option cf_AV} {st : List cf_AV} {w : cf_Wd} {Q : cf_Rs → Prop} : cf_wp T_R_follow (140, [l0, l1, l2, l3, l4, l5], st, w) Q ↔ cf_wp T_R_follow (141, [l0, l1, l2, l3, l4, l5], .inl (-1) :: st, w) Q := cf_w1 rfl
theorem r_R_follow_141 {l0 l1 l2 l3 l4 l5 : Option cf_AV} {x : Int32} {w : cf_Wd} {P : Int32 → cf_Wd → Prop} : cf_wp T_R_follow (141, [l0, l1, l2, l3, l4, l5], [.inl x], w) (cf_qi P) ↔ P x w := Iff.trans (cf_wr (q := (some (.inl x), w)) rfl) Iff.rfl
theorem e_R_follow {a1 : Int32} {w : cf_Wd} {P : Int32 → cf_Wd → Prop} (h : cf_wp T_R_follow (0, [some (.inr 11), some (.inl a1), none, none, none, none], [], w) (cf_qi P)) : ∃ x w1, F_R_follow [.inr 11, .inl a1] w = some (some (.inl x), w1) ∧ P x w1 := cf_ei rfl (Nat.le_of_ble_eq_true rfl) h
