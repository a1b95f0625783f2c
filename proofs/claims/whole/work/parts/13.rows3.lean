noncomputable def T_S_planReducing (pc : Nat) : cf_Rw := bif Nat.ble pc 41 then
 (bif Nat.ble pc 22 then
  (bif Nat.ble pc 11 then
   (bif Nat.ble pc 4 then
    (bif Nat.ble pc 0 then
     (bif Nat.beq pc 0 then cf_aload 0 1 else cf_stuck)
     else
     (bif Nat.ble pc 1 then
      (bif Nat.beq pc 1 then cf_get 3 0 4 else cf_stuck)
      else
      (bif Nat.beq pc 4 then cf_get 0 0 7 else cf_stuck)))
    else
    (bif Nat.ble pc 7 then
     (bif Nat.beq pc 7 then cf_aload 0 8 else cf_stuck)
     else
     (bif Nat.ble pc 8 then
      (bif Nat.beq pc 8 then cf_get 3 13 11 else cf_stuck)
      else
      (bif Nat.beq pc 11 then cf_iald 12 else cf_stuck))))
   else
   (bif Nat.ble pc 14 then
    (bif Nat.ble pc 12 then
     (bif Nat.beq pc 12 then cf_istore 1 13 else cf_stuck)
     else
     (bif Nat.ble pc 13 then
      (bif Nat.beq pc 13 then cf_iload 1 14 else cf_stuck)
      else
      (bif Nat.beq pc 14 then cf_const (-1) 15 else cf_stuck)))
    else
    (bif Nat.ble pc 18 then
     (bif Nat.ble pc 15 then
      (bif Nat.beq pc 15 then cf_iceq 33 18 else cf_stuck)
      else
      (bif Nat.beq pc 18 then cf_aload 0 19 else cf_stuck))
     else
     (bif Nat.ble pc 19 then
      (bif Nat.beq pc 19 then cf_get 3 4 22 else cf_stuck)
      else
      (bif Nat.beq pc 22 then cf_iload 1 23 else cf_stuck)))))
  else
  (bif Nat.ble pc 32 then
   (bif Nat.ble pc 27 then
    (bif Nat.ble pc 23 then
     (bif Nat.beq pc 23 then cf_iald 24 else cf_stuck)
     else
     (bif Nat.ble pc 24 then
      (bif Nat.beq pc 24 then cf_ifne 33 27 else cf_stuck)
      else
      (bif Nat.beq pc 27 then cf_aload 0 28 else cf_stuck)))
    else
    (bif Nat.ble pc 28 then
     (bif Nat.beq pc 28 then cf_iload 1 29 else cf_stuck)
     else
     (bif Nat.ble pc 29 then
      (bif Nat.beq pc 29 then cf_put 3 14 32 else cf_stuck)
      else
      (bif Nat.beq pc 32 then cf_vret else cf_stuck))))
   else
   (bif Nat.ble pc 35 then
    (bif Nat.ble pc 33 then
     (bif Nat.beq pc 33 then cf_const (-1) 34 else cf_stuck)
     else
     (bif Nat.ble pc 34 then
      (bif Nat.beq pc 34 then cf_istore 2 35 else cf_stuck)
      else
      (bif Nat.beq pc 35 then cf_iload 1 36 else cf_stuck)))
    else
    (bif Nat.ble pc 37 then
     (bif Nat.ble pc 36 then
      (bif Nat.beq pc 36 then cf_const (-1) 37 else cf_stuck)
      else
      (bif Nat.beq pc 37 then cf_iceq 70 40 else cf_stuck))
     else
     (bif Nat.ble pc 40 then
      (bif Nat.beq pc 40 then cf_aload 0 41 else cf_stuck)
      else
      (bif Nat.beq pc 41 then cf_get 3 4 44 else cf_stuck))))))
 else
 (bif Nat.ble pc 66 then
  (bif Nat.ble pc 51 then
   (bif Nat.ble pc 46 then
    (bif Nat.ble pc 44 then
     (bif Nat.beq pc 44 then cf_iload 1 45 else cf_stuck)
     else
     (bif Nat.ble pc 45 then
      (bif Nat.beq pc 45 then cf_iald 46 else cf_stuck)
      else
      (bif Nat.beq pc 46 then cf_const 1 47 else cf_stuck)))
    else
    (bif Nat.ble pc 47 then
     (bif Nat.beq pc 47 then cf_icne 70 50 else cf_stuck)
     else
     (bif Nat.ble pc 50 then
      (bif Nat.beq pc 50 then cf_aload 0 51 else cf_stuck)
      else
      (bif Nat.beq pc 51 then cf_get 3 2 54 else cf_stuck))))
   else
   (bif Nat.ble pc 58 then
    (bif Nat.ble pc 54 then
     (bif Nat.beq pc 54 then cf_aload 0 55 else cf_stuck)
     else
     (bif Nat.ble pc 55 then
      (bif Nat.beq pc 55 then cf_get 3 0 58 else cf_stuck)
      else
      (bif Nat.beq pc 58 then cf_iload 1 59 else cf_stuck)))
    else
    (bif Nat.ble pc 60 then
     (bif Nat.ble pc 59 then
      (bif Nat.beq pc 59 then cf_aload 0 60 else cf_stuck)
      else
      (bif Nat.beq pc 60 then cf_get 3 13 63 else cf_stuck))
     else
     (bif Nat.ble pc 63 then
      (bif Nat.beq pc 63 then cf_call 3 F_H_changedLines 66 else cf_stuck)
      else
      (bif Nat.beq pc 66 then cf_call 2 F_R_follow 69 else cf_stuck)))))
  else
  (bif Nat.ble pc 77 then
   (bif Nat.ble pc 71 then
    (bif Nat.ble pc 69 then
     (bif Nat.beq pc 69 then cf_istore 2 70 else cf_stuck)
     else
     (bif Nat.ble pc 70 then
      (bif Nat.beq pc 70 then cf_iload 2 71 else cf_stuck)
      else
      (bif Nat.beq pc 71 then cf_const (-1) 72 else cf_stuck)))
    else
    (bif Nat.ble pc 75 then
     (bif Nat.ble pc 72 then
      (bif Nat.beq pc 72 then cf_icne 83 75 else cf_stuck)
      else
      (bif Nat.beq pc 75 then cf_aload 0 76 else cf_stuck))
     else
     (bif Nat.ble pc 76 then
      (bif Nat.beq pc 76 then cf_const 4 77 else cf_stuck)
      else
      (bif Nat.beq pc 77 then cf_put 3 6 80 else cf_stuck))))
   else
   (bif Nat.ble pc 84 then
    (bif Nat.ble pc 80 then
     (bif Nat.beq pc 80 then cf_goto 92 else cf_stuck)
     else
     (bif Nat.ble pc 83 then
      (bif Nat.beq pc 83 then cf_aload 0 84 else cf_stuck)
      else
      (bif Nat.beq pc 84 then cf_const 1000 87 else cf_stuck)))
    else
    (bif Nat.ble pc 88 then
     (bif Nat.ble pc 87 then
      (bif Nat.beq pc 87 then cf_iload 2 88 else cf_stuck)
      else
      (bif Nat.beq pc 88 then cf_bin (fun x y => x + y) 89 else cf_stuck))
     else
     (bif Nat.ble pc 89 then
      (bif Nat.beq pc 89 then cf_put 3 14 92 else cf_stuck)
      else
      (bif Nat.beq pc 92 then cf_vret else cf_stuck))))))
noncomputable def F_S_planReducing : List cf_AV → cf_Wd → Option cf_Rs := cf_F T_S_planReducing 3 none (cf_shV 10 0)
theorem r_S_planReducing_0 {l1 l2 : Option cf_AV} {k : Nat} {st : List cf_AV} {w : cf_Wd} {Q : cf_Rs → Prop} : cf_wp T_S_planReducing (0, [some (.inr k), l1, l2], st, w) Q ↔ cf_wp T_S_planReducing (1, [some (.inr k), l1, l2], .inr k :: st, w) Q := cf_w1 rfl
theorem r_S_planReducing_1 {l0 l1 l2 : Option cf_AV} {st : List cf_AV} {w : cf_Wd} {Q : cf_Rs → Prop} : cf_wp T_S_planReducing (1, [l0, l1, l2], .inr 10 :: st, w) Q ↔ cf_wp T_S_planReducing (4, [l0, l1, l2], .inr 1 :: st, w) Q := cf_w1 rfl
theorem r_S_planReducing_4 {l0 l1 l2 : Option cf_AV} {st : List cf_AV} {w : cf_Wd} {Q : cf_Rs → Prop} : cf_wp T_S_planReducing (4, [l0, l1, l2], .inr 1 :: st, w) Q ↔ cf_wp T_S_planReducing (7, [l0, l1, l2], .inr 2 :: st, w) Q := cf_w1 rfl
theorem r_S_planReducing_7 {l1 l2 : Option cf_AV} {k : Nat} {st : List cf_AV} {w : cf_Wd} {Q : cf_Rs → Prop} : cf_wp T_S_planReducing (7, [some (.inr k), l1, l2], st, w) Q ↔ cf_wp T_S_planReducing (8, [some (.inr k), l1, l2], .inr k :: st, w) Q := cf_w1 rfl
theorem r_S_planReducing_8 {l0 l1 l2 : Option cf_AV} {st : List cf_AV} {w : cf_Wd} {Q : cf_Rs → Prop} : cf_wp T_S_planReducing (8, [l0, l1, l2], .inr 10 :: st, w) Q ↔ cf_wp T_S_planReducing (11, [l0, l1, l2], .inl (w 10 13) :: st, w) Q := cf_w1 rfl
theorem r_S_planReducing_11 {l0 l1 l2 : Option cf_AV} {i : Int32} {st : List cf_AV} {w : cf_Wd} {Q : cf_Rs → Prop} : cf_wp T_S_planReducing (11, [l0, l1, l2], .inl i :: .inr 2 :: st, w) Q ↔ (cf_in i 14 = true ∧ cf_wp T_S_planReducing (12, [l0, l1, l2], .inl (w 2 i.toNatClampNeg) :: st, w) Q) := cf_wg rfl
theorem r_S_planReducing_12 {l0 l1 l2 : Option cf_AV} {x : Int32} {st : List cf_AV} {w : cf_Wd} {Q : cf_Rs → Prop} : cf_wp T_S_planReducing (12, [l0, l1, l2], .inl x :: st, w) Q ↔ cf_wp T_S_planReducing (13, [l0, some (.inl x), l2], st, w) Q := cf_w1 rfl
theorem r_S_planReducing_13 {l0 l2 : Option cf_AV} {x : Int32} {st : List cf_AV} {w : cf_Wd} {Q : cf_Rs → Prop} : cf_wp T_S_planReducing (13, [l0, some (.inl x), l2], st, w) Q ↔ cf_wp T_S_planReducing (14, [l0, some (.inl x), l2], .inl x :: st, w) Q := cf_w1 rfl
theorem r_S_planReducing_14 {l0 l1 l2 : Option cf_AV} {st : List cf_AV} {w : cf_Wd} {Q : cf_Rs → Prop} : cf_wp T_S_planReducing (14, [l0, l1, l2], st, w) Q ↔ cf_wp T_S_planReducing (15, [l0, l1, l2], .inl (-1) :: st, w) Q := cf_w1 rfl
theorem r_S_planReducing_15 {l0 l1 l2 : Option cf_AV} {x y : Int32} {st : List cf_AV} {w : cf_Wd} {Q : cf_Rs → Prop} : cf_wp T_S_planReducing (15, [l0, l1, l2], .inl y :: .inl x :: st, w) Q ↔ (if x = y then cf_wp T_S_planReducing (33, [l0, l1, l2], st, w) Q else cf_wp T_S_planReducing (18, [l0, l1, l2], st, w) Q) := cf_wi rfl
theorem r_S_planReducing_18 {l1 l2 : Option cf_AV} {k : Nat} {st : List cf_AV} {w : cf_Wd} {Q : cf_Rs → Prop} : cf_wp T_S_planReducing (18, [some (.inr k), l1, l2], st, w) Q ↔ cf_wp T_S_planReducing (19, [some (.inr k), l1, l2], .inr k :: st, w) Q := cf_w1 rfl
theorem r_S_planReducing_19 {l0 l1 l2 : Option cf_AV} {st : List cf_AV} {w : cf_Wd} {Q : cf_Rs → Prop} : cf_wp T_S_planReducing (19, [l0, l1, l2], .inr 10 :: st, w) Q ↔ cf_wp T_S_planReducing (22, [l0, l1, l2], .inr 14 :: st, w) Q := cf_w1 rfl
theorem r_S_planReducing_22 {l0 l2 : Option cf_AV} {x : Int32} {st : List cf_AV} {w : cf_Wd} {Q : cf_Rs → Prop} : cf_wp T_S_planReducing (22, [l0, some (.inl x), l2], st, w) Q ↔ cf_wp T_S_planReducing (23, [l0, some (.inl x), l2], .inl x :: st, w) Q := cf_w1 rfl
theorem r_S_planReducing_23 {l0 l1 l2 : Option cf_AV} {i : Int32} {st : List cf_AV} {w : cf_Wd} {Q : cf_Rs → Prop} : cf_wp T_S_planReducing (23, [l0, l1, l2], .inl i :: .inr 14 :: st, w) Q ↔ (cf_in i 14 = true ∧ cf_wp T_S_planReducing (24, [l0, l1, l2], .inl (w 14 i.toNatClampNeg) :: st, w) Q) := cf_wg rfl
theorem r_S_planReducing_24 {l0 l1 l2 : Option cf_AV} {x : Int32} {st : List cf_AV} {w : cf_Wd} {Q : cf_Rs → Prop} : cf_wp T_S_planReducing (24, [l0, l1, l2], .inl x :: st, w) Q ↔ (if ¬ x = 0 then cf_wp T_S_planReducing (33, [l0, l1, l2], st, w) Q else cf_wp T_S_planReducing (27, [l0, l1, l2], st, w) Q) := cf_wi rfl
theorem r_S_planReducing_27 {l1 l2 : Option cf_AV} {k : Nat} {st : List cf_AV} {w : cf_Wd} {Q : cf_Rs → Prop} : cf_wp T_S_planReducing (27, [some (.inr k), l1, l2], st, w) Q ↔ cf_wp T_S_planReducing (28, [some (.inr k), l1, l2], .inr k :: st, w) Q := cf_w1 rfl
theorem r_S_planReducing_28 {l0 l2 : Option cf_AV} {x : Int32} {st : List cf_AV} {w : cf_Wd} {Q : cf_Rs → Prop} : cf_wp T_S_planReducing (28, [l0, some (.inl x), l2], st, w) Q ↔ cf_wp T_S_planReducing (29, [l0, some (.inl x), l2], .inl x :: st, w) Q := cf_w1 rfl
theorem r_S_planReducing_29 {l0 l1 l2 : Option cf_AV} {x : Int32} {st : List cf_AV} {w : cf_Wd} {Q : cf_Rs → Prop} : cf_wp T_S_planReducing (29, [l0, l1, l2], .inl x :: .inr 10 :: st, w) Q ↔ cf_wp T_S_planReducing (32, [l0, l1, l2], st, (cf_wa w 10 (upd (w 10) 14 x))) Q := cf_w1 rfl
theorem r_S_planReducing_32 {l0 l1 l2 : Option cf_AV} {w : cf_Wd} {P : cf_Wd → Prop} : cf_wp T_S_planReducing (32, [l0, l1, l2], [], w) (cf_qv P) ↔ P w := Iff.trans (cf_wr (q := (none, w)) rfl) Iff.rfl
theorem r_S_planReducing_33 {l0 l1 l2 : Option cf_AV} {st : List cf_AV} {w : cf_Wd} {Q : cf_Rs → Prop} : cf_wp T_S_planReducing (33, [l0, l1, l2], st, w) Q ↔ cf_wp T_S_planReducing (34, [l0, l1, l2], .inl (-1) :: st, w) Q := cf_w1 rfl
theorem r_S_planReducing_34 {l0 l1 l2 : Option cf_AV} {x : Int32} {st : List cf_AV} {w : cf_Wd} {Q : cf_Rs → Prop} : cf_wp T_S_planReducing (34, [l0, l1, l2], .inl x :: st, w) Q ↔ cf_wp T_S_planReducing (35, [l0, l1, some (.inl x)], st, w) Q := cf_w1 rfl
theorem r_S_planReducing_35 {l0 l2 : Option cf_AV} {x : Int32} {st : List cf_AV} {w : cf_Wd} {Q : cf_Rs → Prop} : cf_wp T_S_planReducing (35, [l0, some (.inl x), l2], st, w) Q ↔ cf_wp T_S_planReducing (36, [l0, some (.inl x), l2], .inl x :: st, w) Q := cf_w1 rfl
theorem r_S_planReducing_36 {l0 l1 l2 : Option cf_AV} {st : List cf_AV} {w : cf_Wd} {Q : cf_Rs → Prop} : cf_wp T_S_planReducing (36, [l0, l1, l2], st, w) Q ↔ cf_wp T_S_planReducing (37, [l0, l1, l2], .inl (-1) :: st, w) Q := cf_w1 rfl
theorem r_S_planReducing_37 {l0 l1 l2 : Option cf_AV} {x y : Int32} {st : List cf_AV} {w : cf_Wd} {Q : cf_Rs → Prop} : cf_wp T_S_planReducing (37, [l0, l1, l2], .inl y :: .inl x :: st, w) Q ↔ (if x = y then cf_wp T_S_planReducing (70, [l0, l1, l2], st, w) Q else cf_wp T_S_planReducing (40, [l0, l1, l2], st, w) Q) := cf_wi rfl
theorem r_S_planReducing_40 {l1 l2 : Option cf_AV} {k : Nat} {st : List cf_AV} {w : cf_Wd} {Q : cf_Rs → Prop} : cf_wp T_S_planReducing (40, [some (.inr k), l1, l2], st, w) Q ↔ cf_wp T_S_planReducing (41, [some (.inr k), l1, l2], .inr k :: st, w) Q := cf_w1 rfl
theorem r_S_planReducing_41 {l0 l1 l2 : Option cf_AV} {st : List cf_AV} {w : cf_Wd} {Q : cf_Rs → Prop} : cf_wp T_S_planReducing (41, [l0, l1, l2], .inr 10 :: st, w) Q ↔ cf_wp T_S_planReducing (44, [l0, l1, l2], .inr 14 :: st, w) Q := cf_w1 rfl
theorem r_S_planReducing_44 {l0 l2 : Option cf_AV} {x : Int32} {st : List cf_AV} {w : cf_Wd} {Q : cf_Rs → Prop} : cf_wp T_S_planReducing (44, [l0, some (.inl x), l2], st, w) Q ↔ cf_wp T_S_planReducing (45, [l0, some (.inl x), l2], .inl x :: st, w) Q := cf_w1 rfl
theorem r_S_planReducing_45 {l0 l1 l2 : Option cf_AV} {i : Int32} {st : List cf_AV} {w : cf_Wd} {Q : cf_Rs → Prop} : cf_wp T_S_planReducing (45, [l0, l1, l2], .inl i :: .inr 14 :: st, w) Q ↔ (cf_in i 14 = true ∧ cf_wp T_S_planReducing (46, [l0, l1, l2], .inl (w 14 i.toNatClampNeg) :: st, w) Q) := cf_wg rfl
theorem r_S_planReducing_46 {l0 l1 l2 : Option cf_AV} {st : List cf_AV} {w : cf_Wd} {Q : cf_Rs → Prop} : cf_wp T_S_planReducing (46, [l0, l1, l2], st, w) Q ↔ cf_wp T_S_planReducing (47, [l0, l1, l2], .inl 1 :: st, w) Q := cf_w1 rfl
theorem r_S_planReducing_47 {l0 l1 l2 : Option cf_AV} {x y : Int32} {st : List cf_AV} {w : cf_Wd} {Q : cf_Rs → Prop} : cf_wp T_S_planReducing (47, [l0, l1, l2], .inl y :: .inl x :: st, w) Q ↔ (if ¬ x = y then cf_wp T_S_planReducing (70, [l0, l1, l2], st, w) Q else cf_wp T_S_planReducing (50, [l0, l1, l2], st, w) Q) := cf_wi rfl
theorem r_S_planReducing_50 {l1 l2 : Option cf_AV} {k : Nat} {st : List cf_AV} {w : cf_Wd} {Q : cf_Rs → Prop} : cf_wp T_S_planReducing (50, [some (.inr k), l1, l2], st, w) Q ↔ cf_wp T_S_planReducing (51, [some (.inr k), l1, l2], .inr k :: st, w) Q := cf_w1 rfl
theorem r_S_planReducing_51 {l0 l1 l2 : Option cf_AV} {st : List cf_AV} {w : cf_Wd} {Q : cf_Rs → Prop} : cf_wp T_S_planReducing (51, [l0, l1, l2], .inr 10 :: st, w) Q ↔ cf_wp T_S_planReducing (54, [l0, l1, l2], .inr 11 :: st, w) Q := cf_w1 rfl
theorem r_S_planReducing_54 {l1 l2 : Option cf_AV} {k : Nat} {st : List cf_AV} {w : cf_Wd} {Q : cf_Rs → Prop} : cf_wp T_S_planReducing (54, [some (.inr k), l1, l2], st, w) Q ↔ cf_wp T_S_planReducing (55, [some (.inr k), l1, l2], .inr k :: st, w) Q := cf_w1 rfl
theorem r_S_planReducing_55 {l0 l1 l2 : Option cf_AV} {st : List cf_AV} {w : cf_Wd} {Q : cf_Rs → Prop} : cf_wp T_S_planReducing (55, [l0, l1, l2], .inr 10 :: st, w) Q ↔ cf_wp T_S_planReducing (58, [l0, l1, l2], .inr 1 :: st, w) Q := cf_w1 rfl
theorem r_S_planReducing_58 {l0 l2 : Option cf_AV} {x : Int32} {st : List cf_AV} {w : cf_Wd} {Q : cf_Rs → Prop} : cf_wp T_S_planReducing (58, [l0, some (.inl x), l2], st, w) Q ↔ cf_wp T_S_planReducing (59, [l0, some (.inl x), l2], .inl x :: st, w) Q := cf_w1 rfl
theorem r_S_planReducing_59 {l1 l2 : Option cf_AV} {k : Nat} {st : List cf_AV} {w : cf_Wd} {Q : cf_Rs → Prop} : cf_wp T_S_planReducing (59, [some (.inr k), l1, l2], st, w) Q ↔ cf_wp T_S_planReducing (60, [some (.inr k), l1, l2], .inr k :: st, w) Q := cf_w1 rfl
theorem r_S_planReducing_60 {l0 l1 l2 : Option cf_AV} {st : List cf_AV} {w : cf_Wd} {Q : cf_Rs → Prop} : cf_wp T_S_planReducing (60, [l0, l1, l2], .inr 10 :: st, w) Q ↔ cf_wp T_S_planReducing (63, [l0, l1, l2], .inl (w 10 13) :: st, w) Q := cf_w1 rfl
theorem r_S_planReducing_63 {l0 l1 l2 : Option cf_AV} {a2 a1 : Int32} {t0 : cf_AV} {w : cf_Wd} {Q : cf_Rs → Prop} : cf_wp T_S_planReducing (63, [l0, l1, l2], [.inl a2, .inl a1, .inr 1, t0], w) Q ↔ ∃ x w1, F_H_changedLines [.inr 1, .inl a1, .inl a2] w = some (some (.inl x), w1) ∧ cf_wp T_S_planReducing (66, [l0, l1, l2], [.inl x, t0], w1) Q := cf_wci (n := 3) (F := F_H_changedLines) (nx := 66) rfl rfl cf_F_i
theorem c_S_planReducing_63 {l0 l1 l2 : Option cf_AV} {a2 a1 : Int32} {t0 : cf_AV} {x1 : Int32} {w1 : cf_Wd} {w : cf_Wd} {Q : cf_Rs → Prop} (hs : F_H_changedLines [.inr 1, .inl a1, .inl a2] w = some (some (.inl x1), w1)) : cf_wp T_S_planReducing (63, [l0, l1, l2], [.inl a2, .inl a1, .inr 1, t0], w) Q ↔ cf_wp T_S_planReducing (66, [l0, l1, l2], [.inl x1, t0], w1) Q := r_S_planReducing_63.trans (cf_xi hs)
theorem r_S_planReducing_66 {l0 l1 l2 : Option cf_AV} {a1 : Int32} {w : cf_Wd} {Q : cf_Rs → Prop} : cf_wp T_S_planReducing (66, [l0, l1, l2], [.inl a1, .inr 11], w) Q ↔ ∃ x w1, F_R_follow [.inr 11, .inl a1] w = some (some (.inl x), w1) ∧ cf_wp T_S_planReducing (69, [l0, l1, l2], [.inl x], w1) Q := cf_wci (n := 2) (F := F_R_follow) (nx := 69) rfl rfl cf_F_i
theorem c_S_planReducing_66 {l0 l1 l2 : Option cf_AV} {a1 : Int32} {x1 : Int32} {w1 : cf_Wd} {w : cf_Wd} {Q : cf_Rs → Prop} (hs : F_R_follow [.inr 11, .inl a1] w = some (some (.inl x1), w1)) : cf_wp T_S_planReducing (66, [l0, l1, l2], [.inl a1, .inr 11], w) Q ↔ cf_wp T_S_planReducing (69, [l0, l1, l2], [.inl x1], w1) Q := r_S_planReducing_66.trans (cf_xi hs)
theorem r_S_planReducing_69 {l0 l1 l2 : Option cf_AV} {x : Int32} {st : List cf_AV} {w : cf_Wd} {Q : cf_Rs → Prop} : cf_wp T_S_planReducing (69, [l0, l1, l2], .inl x :: st, w) Q ↔ cf_wp T_S_planReducing (70, [l0, l1, some (.inl x)], st, w) Q := cf_w1 rfl
theorem r_S_planReducing_70 {l0 l1 : Option cf_AV} {x : Int32} {st : List cf_AV} {w : cf_Wd} {Q : cf_Rs → Prop} : cf_wp T_S_planReducing (70, [l0, l1, some (.inl x)], st, w) Q ↔ cf_wp T_S_planReducing (71, [l0, l1, some (.inl x)], .inl x :: st, w) Q := cf_w1 rfl
theorem r_S_planReducing_71 {l0 l1 l2 : Option cf_AV} {st : List cf_AV} {w : cf_Wd} {Q : cf_Rs → Prop} : cf_wp T_S_planReducing (71, [l0, l1, l2], st, w) Q ↔ cf_wp T_S_planReducing (72, [l0, l1, l2], .inl (-1) :: st, w) Q := cf_w1 rfl
theorem r_S_planReducing_72 {l0 l1 l2 : Option cf_AV} {x y : Int32} {st : List cf_AV} {w : cf_Wd} {Q : cf_Rs → Prop} : cf_wp T_S_planReducing (72, [l0, l1, l2], .inl y :: .inl x :: st, w) Q ↔ (if ¬ x = y then cf_wp T_S_planReducing (83, [l0, l1, l2], st, w) Q else cf_wp T_S_planReducing (75, [l0, l1, l2], st, w) Q) := cf_wi rfl
theorem r_S_planReducing_75 {l1 l2 : Option cf_AV} {k : Nat} {st : List cf_AV} {w : cf_Wd} {Q : cf_Rs → Prop} : cf_wp T_S_planReducing (75, [some (.inr k), l1, l2], st, w) Q ↔ cf_wp T_S_planReducing (76, [some (.inr k), l1, l2], .inr k :: st, w) Q := cf_w1 rfl
theorem r_S_planReducing_76 {l0 l1 l2 : Option cf_AV} {st : List cf_AV} {w : cf_Wd} {Q : cf_Rs → Prop} : cf_wp T_S_planReducing (76, [l0, l1, l2], st, w) Q ↔ cf_wp T_S_planReducing (77, [l0, l1, l2], .inl 4 :: st, w) Q := cf_w1 rfl
theorem r_S_planReducing_77 {l0 l1 l2 : Option cf_AV} {x : Int32} {st : List cf_AV} {w : cf_Wd} {Q : cf_Rs → Prop} : cf_wp T_S_planReducing (77, [l0, l1, l2], .inl x :: .inr 10 :: st, w) Q ↔ cf_wp T_S_planReducing (80, [l0, l1, l2], st, (cf_wa w 10 (upd (w 10) 6 x))) Q := cf_w1 rfl
theorem r_S_planReducing_80 {l0 l1 l2 : Option cf_AV} {st : List cf_AV} {w : cf_Wd} {Q : cf_Rs → Prop} : cf_wp T_S_planReducing (80, [l0, l1, l2], st, w) Q ↔ cf_wp T_S_planReducing (92, [l0, l1, l2], st, w) Q := cf_w1 rfl
theorem r_S_planReducing_83 {l1 l2 : Option cf_AV} {k : Nat} {st : List cf_AV} {w : cf_Wd} {Q : cf_Rs → Prop} : cf_wp T_S_planReducing (83, [some (.inr k), l1, l2], st, w) Q ↔ cf_wp T_S_planReducing (84, [some (.inr k), l1, l2], .inr k :: st, w) Q := cf_w1 rfl
theorem r_S_planReducing_84 {l0 l1 l2 : Option cf_AV} {st : List cf_AV} {w : cf_Wd} {Q : cf_Rs → Prop} : cf_wp T_S_planReducing (84, [l0, l1, l2], st, w) Q ↔ cf_wp T_S_planReducing (87, [l0, l1, l2], .inl 1000 :: st, w) Q := cf_w1 rfl
theorem r_S_planReducing_87 {l0 l1 : Option cf_AV} {x : Int32} {st : List cf_AV} {w : cf_Wd} {Q : cf_Rs → Prop} : cf_wp T_S_planReducing (87, [l0, l1, some (.inl x)], st, w) Q ↔ cf_wp T_S_planReducing (88, [l0, l1, some (.inl x)], .inl x :: st, w) Q := cf_w1 rfl
theorem r_S_planReducing_88 {l0 l1 l2 : Option cf_AV} {x y : Int32} {st : List cf_AV} {w : cf_Wd} {Q : cf_Rs → Prop} : cf_wp T_S_planReducing (88, [l0, l1, l2], .inl y :: .inl x :: st, w) Q ↔ cf_wp T_S_planReducing (89, [l0, l1, l2], .inl (x + y) :: st, w) Q := cf_w1 rfl
theorem r_S_planReducing_89 {l0 l1 l2 : Option cf_AV} {x : Int32} {st : List cf_AV} {w : cf_Wd} {Q : cf_Rs → Prop} : cf_wp T_S_planReducing (89, [l0, l1, l2], .inl x :: .inr 10 :: st, w) Q ↔ cf_wp T_S_planReducing (92, [l0, l1, l2], st, (cf_wa w 10 (upd (w 10) 14 x))) Q := cf_w1 rfl
theorem r_S_planReducing_92 {l0 l1 l2 : Option cf_AV} {w : cf_Wd} {P : cf_Wd → Prop} : cf_wp T_S_planReducing (92, [l0, l1, l2], [], w) (cf_qv P) ↔ P w := Iff.trans (cf_wr (q := (none, w)) rfl) Iff.rfl
theorem e_S_planReducing {w : cf_Wd} {P : cf_Wd → Prop} (h : cf_wp T_S_planReducing (0, [some (.inr 10), none, none], [], w) (cf_qv P)) : ∃ w1, F_S_planReducing [.inr 10] w = some (none, w1) ∧ P w1 := cf_ev rfl (Nat.le_of_ble_eq_true rfl) h
noncomputable def T_S_plan (pc : Nat) : cf_Rw := bif Nat.ble pc 18 then
 (bif Nat.ble pc 6 then
  (bif Nat.ble pc 1 then
   (bif Nat.ble pc 0 then
    (bif Nat.beq pc 0 then cf_aload 0 1 else cf_stuck)
    else
    (bif Nat.beq pc 1 then cf_const (-1) 2 else cf_stuck))
   else
   (bif Nat.ble pc 2 then
    (bif Nat.beq pc 2 then cf_put 3 14 5 else cf_stuck)
    else
    (bif Nat.ble pc 5 then
     (bif Nat.beq pc 5 then cf_aload 0 6 else cf_stuck)
     else
     (bif Nat.beq pc 6 then cf_get 3 6 9 else cf_stuck))))
  else
  (bif Nat.ble pc 13 then
   (bif Nat.ble pc 9 then
    (bif Nat.beq pc 9 then cf_const 1 10 else cf_stuck)
    else
    (bif Nat.ble pc 10 then
     (bif Nat.beq pc 10 then cf_icne 17 13 else cf_stuck)
     else
     (bif Nat.beq pc 13 then cf_aload 0 14 else cf_stuck)))
   else
   (bif Nat.ble pc 14 then
    (bif Nat.beq pc 14 then cf_call 1 F_S_planEnds 17 else cf_stuck)
    else
    (bif Nat.ble pc 17 then
     (bif Nat.beq pc 17 then cf_aload 0 18 else cf_stuck)
     else
     (bif Nat.beq pc 18 then cf_get 3 6 21 else cf_stuck)))))
 else
 (bif Nat.ble pc 29 then
  (bif Nat.ble pc 22 then
   (bif Nat.ble pc 21 then
    (bif Nat.beq pc 21 then cf_const 2 22 else cf_stuck)
    else
    (bif Nat.beq pc 22 then cf_icne 29 25 else cf_stuck))
   else
   (bif Nat.ble pc 25 then
    (bif Nat.beq pc 25 then cf_aload 0 26 else cf_stuck)
    else
    (bif Nat.ble pc 26 then
     (bif Nat.beq pc 26 then cf_call 1 F_S_planHalving 29 else cf_stuck)
     else
     (bif Nat.beq pc 29 then cf_aload 0 30 else cf_stuck))))
  else
  (bif Nat.ble pc 34 then
   (bif Nat.ble pc 30 then
    (bif Nat.beq pc 30 then cf_get 3 6 33 else cf_stuck)
    else
    (bif Nat.ble pc 33 then
     (bif Nat.beq pc 33 then cf_const 3 34 else cf_stuck)
     else
     (bif Nat.beq pc 34 then cf_icne 41 37 else cf_stuck)))
   else
   (bif Nat.ble pc 37 then
    (bif Nat.beq pc 37 then cf_aload 0 38 else cf_stuck)
    else
    (bif Nat.ble pc 38 then
     (bif Nat.beq pc 38 then cf_call 1 F_S_planReducing 41 else cf_stuck)
     else
     (bif Nat.beq pc 41 then cf_vret else cf_stuck)))))
noncomputable def F_S_plan : List cf_AV → cf_Wd → Option cf_Rs := cf_F T_S_plan 1 none (cf_shV 10 0)
theorem r_S_plan_0 {k : Nat} {st : List cf_AV} {w : cf_Wd} {Q : cf_Rs → Prop} : cf_wp T_S_plan (0, [some (.inr k)], st, w) Q ↔ cf_wp T_S_plan (1, [some (.inr k)], .inr k :: st, w) Q := cf_w1 rfl
theorem r_S_plan_1 {l0 : Option cf_AV} {st : List cf_AV} {w : cf_Wd} {Q : cf_Rs → Prop} : cf_wp T_S_plan (1, [l0], st, w) Q ↔ cf_wp T_S_plan (2, [l0], .inl (-1) :: st, w) Q := cf_w1 rfl
theorem r_S_plan_2 {l0 : Option cf_AV} {x : Int32} {st : List cf_AV} {w : cf_Wd} {Q : cf_Rs → Prop} : cf_wp T_S_plan (2, [l0], .inl x :: .inr 10 :: st, w) Q ↔ cf_wp T_S_plan (5, [l0], st, (cf_wa w 10 (upd (w 10) 14 x))) Q := cf_w1 rfl
theorem r_S_plan_5 {k : Nat} {st : List cf_AV} {w : cf_Wd} {Q : cf_Rs → Prop} : cf_wp T_S_plan (5, [some (.inr k)], st, w) Q ↔ cf_wp T_S_plan (6, [some (.inr k)], .inr k :: st, w) Q := cf_w1 rfl
theorem r_S_plan_6 {l0 : Option cf_AV} {st : List cf_AV} {w : cf_Wd} {Q : cf_Rs → Prop} : cf_wp T_S_plan (6, [l0], .inr 10 :: st, w) Q ↔ cf_wp T_S_plan (9, [l0], .inl (w 10 6) :: st, w) Q := cf_w1 rfl
theorem r_S_plan_9 {l0 : Option cf_AV} {st : List cf_AV} {w : cf_Wd} {Q : cf_Rs → Prop} : cf_wp T_S_plan (9, [l0], st, w) Q ↔ cf_wp T_S_plan (10, [l0], .inl 1 :: st, w) Q := cf_w1 rfl
theorem r_S_plan_10 {l0 : Option cf_AV} {x y : Int32} {st : List cf_AV} {w : cf_Wd} {Q : cf_Rs → Prop} : cf_wp T_S_plan (10, [l0], .inl y :: .inl x :: st, w) Q ↔ (if ¬ x = y then cf_wp T_S_plan (17, [l0], st, w) Q else cf_wp T_S_plan (13, [l0], st, w) Q) := cf_wi rfl
theorem r_S_plan_13 {k : Nat} {st : List cf_AV} {w : cf_Wd} {Q : cf_Rs → Prop} : cf_wp T_S_plan (13, [some (.inr k)], st, w) Q ↔ cf_wp T_S_plan (14, [some (.inr k)], .inr k :: st, w) Q := cf_w1 rfl
theorem r_S_plan_14 {l0 : Option cf_AV} {w : cf_Wd} {Q : cf_Rs → Prop} : cf_wp T_S_plan (14, [l0], [.inr 10], w) Q ↔ ∃ w1, F_S_planEnds [.inr 10] w = some (none, w1) ∧ cf_wp T_S_plan (17, [l0], [], w1) Q := cf_wcv (n := 1) (F := F_S_planEnds) (nx := 17) rfl rfl cf_F_v
theorem c_S_plan_14 {l0 : Option cf_AV} {w1 : cf_Wd} {w : cf_Wd} {Q : cf_Rs → Prop} (hs : F_S_planEnds [.inr 10] w = some (none, w1)) : cf_wp T_S_plan (14, [l0], [.inr 10], w) Q ↔ cf_wp T_S_plan (17, [l0], [], w1) Q := r_S_plan_14.trans (cf_xv hs)
theorem r_S_plan_17 {k : Nat} {st : List cf_AV} {w : cf_Wd} {Q : cf_Rs → Prop} : cf_wp T_S_plan (17, [some (.inr k)], st, w) Q ↔ cf_wp T_S_plan (18, [some (.inr k)], .inr k :: st, w) Q := cf_w1 rfl
theorem r_S_plan_18 {l0 : Option cf_AV} {st : List cf_AV} {w : cf_Wd} {Q : cf_Rs → Prop} : cf_wp T_S_plan (18, [l0], .inr 10 :: st, w) Q ↔ cf_wp T_S_plan (21, [l0], .inl (w 10 6) :: st, w) Q := cf_w1 rfl
theorem r_S_plan_21 {l0 : Option cf_AV} {st : List cf_AV} {w : cf_Wd} {Q : cf_Rs → Prop} : cf_wp T_S_plan (21, [l0], st, w) Q ↔ cf_wp T_S_plan (22, [l0], .inl 2 :: st, w) Q := cf_w1 rfl
theorem r_S_plan_22 {l0 : Option cf_AV} {x y : Int32} {st : List cf_AV} {w : cf_Wd} {Q : cf_Rs → Prop} : cf_wp T_S_plan (22, [l0], .inl y :: .inl x :: st, w) Q ↔ (if ¬ x = y then cf_wp T_S_plan (29, [l0], st, w) Q else cf_wp T_S_plan (25, [l0], st, w) Q) := cf_wi rfl
theorem r_S_plan_25 {k : Nat} {st : List cf_AV} {w : cf_Wd} {Q : cf_Rs → Prop} : cf_wp T_S_plan (25, [some (.inr k)], st, w) Q ↔ cf_wp T_S_plan (26, [some (.inr k)], .inr k :: st, w) Q := cf_w1 rfl
theorem r_S_plan_26 {l0 : Option cf_AV} {w : cf_Wd} {Q : cf_Rs → Prop} : cf_wp T_S_plan (26, [l0], [.inr 10], w) Q ↔ ∃ w1, F_S_planHalving [.inr 10] w = some (none, w1) ∧ cf_wp T_S_plan (29, [l0], [], w1) Q := cf_wcv (n := 1) (F := F_S_planHalving) (nx := 29) rfl rfl cf_F_v
theorem c_S_plan_26 {l0 : Option cf_AV} {w1 : cf_Wd} {w : cf_Wd} {Q : cf_Rs → Prop} (hs : F_S_planHalving [.inr 10] w = some (none, w1)) : cf_wp T_S_plan (26, [l0], [.inr 10], w) Q ↔ cf_wp T_S_plan (29, [l0], [], w1) Q := r_S_plan_26.trans (cf_xv hs)
theorem r_S_plan_29 {k : Nat} {st : List cf_AV} {w : cf_Wd} {Q : cf_Rs → Prop} : cf_wp T_S_plan (29, [some (.inr k)], st, w) Q ↔ cf_wp T_S_plan (30, [some (.inr k)], .inr k :: st, w) Q := cf_w1 rfl
theorem r_S_plan_30 {l0 : Option cf_AV} {st : List cf_AV} {w : cf_Wd} {Q : cf_Rs → Prop} : cf_wp T_S_plan (30, [l0], .inr 10 :: st, w) Q ↔ cf_wp T_S_plan (33, [l0], .inl (w 10 6) :: st, w) Q := cf_w1 rfl
theorem r_S_plan_33 {l0 : Option cf_AV} {st : List cf_AV} {w : cf_Wd} {Q : cf_Rs → Prop} : cf_wp T_S_plan (33, [l0], st, w) Q ↔ cf_wp T_S_plan (34, [l0], .inl 3 :: st, w) Q := cf_w1 rfl
theorem r_S_plan_34 {l0 : Option cf_AV} {x y : Int32} {st : List cf_AV} {w : cf_Wd} {Q : cf_Rs → Prop} : cf_wp T_S_plan (34, [l0], .inl y :: .inl x :: st, w) Q ↔ (if ¬ x = y then cf_wp T_S_plan (41, [l0], st, w) Q else cf_wp T_S_plan (37, [l0], st, w) Q) := cf_wi rfl
theorem r_S_plan_37 {k : Nat} {st : List cf_AV} {w : cf_Wd} {Q : cf_Rs → Prop} : cf_wp T_S_plan (37, [some (.inr k)], st, w) Q ↔ cf_wp T_S_plan (38, [some (.inr k)], .inr k :: st, w) Q := cf_w1 rfl
theorem r_S_plan_38 {l0 : Option cf_AV} {w : cf_Wd} {Q : cf_Rs → Prop} : cf_wp T_S_plan (38, [l0], [.inr 10], w) Q ↔ ∃ w1, F_S_planReducing [.inr 10] w = some (none, w1) ∧ cf_wp T_S_plan (41, [l0], [], w1) Q := cf_wcv (n := 1) (F := F_S_planReducing) (nx := 41) rfl rfl cf_F_v
theorem c_S_plan_38 {l0 : Option cf_AV} {w1 : cf_Wd} {w : cf_Wd} {Q : cf_Rs → Prop} (hs : F_S_planReducing [.inr 10] w = some (none, w1)) : cf_wp T_S_plan (38, [l0], [.inr 10], w) Q ↔ cf_wp T_S_plan (41, [l0], [], w1) Q := r_S_plan_38.trans (cf_xv hs)
theorem r_S_plan_41 {l0 : Option cf_AV} {w : cf_Wd} {P : cf_Wd → Prop} : cf_wp T_S_plan (41, [l0], [], w) (cf_qv P) ↔ P w := Iff.trans (cf_wr (q := (none, w)) rfl) Iff.rfl
theorem e_S_plan {w : cf_Wd} {P : cf_Wd → Prop} (h : cf_wp T_S_plan (0, [some (.inr 10)], [], w) (cf_qv P)) : ∃ w1, F_S_plan [.inr 10] w = some (none, w1) ∧ P w1 := cf_ev rfl (Nat.le_of_ble_eq_true rfl) h
noncomputable def T_S_open (pc : Nat) : cf_Rw := bif Nat.ble pc 11 then
 (bif Nat.ble pc 5 then
  (bif Nat.ble pc 1 then
   (bif Nat.ble pc 0 then
    (bif Nat.beq pc 0 then cf_aload 0 1 else cf_stuck)
    else
    (bif Nat.beq pc 1 then cf_call 1 F_S_close 4 else cf_stuck))
   else
   (bif Nat.ble pc 4 then
    (bif Nat.beq pc 4 then cf_aload 0 5 else cf_stuck)
    else
    (bif Nat.beq pc 5 then cf_iload 1 6 else cf_stuck)))
  else
  (bif Nat.ble pc 9 then
   (bif Nat.ble pc 6 then
    (bif Nat.beq pc 6 then cf_put 3 7 9 else cf_stuck)
    else
    (bif Nat.beq pc 9 then cf_aload 0 10 else cf_stuck))
   else
   (bif Nat.ble pc 10 then
    (bif Nat.beq pc 10 then cf_iload 2 11 else cf_stuck)
    else
    (bif Nat.beq pc 11 then cf_put 3 8 14 else cf_stuck))))
 else
 (bif Nat.ble pc 19 then
  (bif Nat.ble pc 15 then
   (bif Nat.ble pc 14 then
    (bif Nat.beq pc 14 then cf_aload 0 15 else cf_stuck)
    else
    (bif Nat.beq pc 15 then cf_iload 3 16 else cf_stuck))
   else
   (bif Nat.ble pc 16 then
    (bif Nat.beq pc 16 then cf_put 3 9 19 else cf_stuck)
    else
    (bif Nat.beq pc 19 then cf_aload 0 20 else cf_stuck)))
  else
  (bif Nat.ble pc 21 then
   (bif Nat.ble pc 20 then
    (bif Nat.beq pc 20 then cf_const 1 21 else cf_stuck)
    else
    (bif Nat.beq pc 21 then cf_put 3 6 24 else cf_stuck))
   else
   (bif Nat.ble pc 24 then
    (bif Nat.beq pc 24 then cf_aload 0 25 else cf_stuck)
    else
    (bif Nat.ble pc 25 then
     (bif Nat.beq pc 25 then cf_call 1 F_S_plan 28 else cf_stuck)
     else
     (bif Nat.beq pc 28 then cf_vret else cf_stuck)))))
noncomputable def F_S_open : List cf_AV → cf_Wd → Option cf_Rs := cf_F T_S_open 4 none (cf_shV 10 3)
theorem r_S_open_0 {l1 l2 l3 : Option cf_AV} {k : Nat} {st : List cf_AV} {w : cf_Wd} {Q : cf_Rs → Prop} : cf_wp T_S_open (0, [some (.inr k), l1, l2, l3], st, w) Q ↔ cf_wp T_S_open (1, [some (.inr k), l1, l2, l3], .inr k :: st, w) Q := cf_w1 rfl
theorem r_S_open_1 {l0 l1 l2 l3 : Option cf_AV} {w : cf_Wd} {Q : cf_Rs → Prop} : cf_wp T_S_open (1, [l0, l1, l2, l3], [.inr 10], w) Q ↔ ∃ w1, F_S_close [.inr 10] w = some (none, w1) ∧ cf_wp T_S_open (4, [l0, l1, l2, l3], [], w1) Q := cf_wcv (n := 1) (F := F_S_close) (nx := 4) rfl rfl cf_F_v
theorem c_S_open_1 {l0 l1 l2 l3 : Option cf_AV} {w1 : cf_Wd} {w : cf_Wd} {Q : cf_Rs → Prop} (hs : F_S_close [.inr 10] w = some (none, w1)) : cf_wp T_S_open (1, [l0, l1, l2, l3], [.inr 10], w) Q ↔ cf_wp T_S_open (4, [l0, l1, l2, l3], [], w1) Q := r_S_open_1.trans (cf_xv hs)
theorem r_S_open_4 {l1 l2 l3 : Option cf_AV} {k : Nat} {st : List cf_AV} {w : cf_Wd} {Q : cf_Rs → Prop} : cf_wp T_S_open (4, [some (.inr k), l1, l2, l3], st, w) Q ↔ cf_wp T_S_open (5, [some (.inr k), l1, l2, l3], .inr k :: st, w) Q := cf_w1 rfl
theorem r_S_open_5 {l0 l2 l3 : Option cf_AV} {x : Int32} {st : List cf_AV} {w : cf_Wd} {Q : cf_Rs → Prop} : cf_wp T_S_open (5, [l0, some (.inl x), l2, l3], st, w) Q ↔ cf_wp T_S_open (6, [l0, some (.inl x), l2, l3], .inl x :: st, w) Q := cf_w1 rfl
theorem r_S_open_6 {l0 l1 l2 l3 : Option cf_AV} {x : Int32} {st : List cf_AV} {w : cf_Wd} {Q : cf_Rs → Prop} : cf_wp T_S_open (6, [l0, l1, l2, l3], .inl x :: .inr 10 :: st, w) Q ↔ cf_wp T_S_open (9, [l0, l1, l2, l3], st, (cf_wa w 10 (upd (w 10) 7 x))) Q := cf_w1 rfl
theorem r_S_open_9 {l1 l2 l3 : Option cf_AV} {k : Nat} {st : List cf_AV} {w : cf_Wd} {Q : cf_Rs → Prop} : cf_wp T_S_open (9, [some (.inr k), l1, l2, l3], st, w) Q ↔ cf_wp T_S_open (10, [some (.inr k), l1, l2, l3], .inr k :: st, w) Q := cf_w1 rfl
theorem r_S_open_10 {l0 l1 l3 : Option cf_AV} {x : Int32} {st : List cf_AV} {w : cf_Wd} {Q : cf_Rs → Prop} : cf_wp T_S_open (10, [l0, l1, some (.inl x), l3], st, w) Q ↔ cf_wp T_S_open (11, [l0, l1, some (.inl x), l3], .inl x :: st, w) Q := cf_w1 rfl
theorem r_S_open_11 {l0 l1 l2 l3 : Option cf_AV} {x : Int32} {st : List cf_AV} {w : cf_Wd} {Q : cf_Rs → Prop} : cf_wp T_S_open (11, [l0, l1, l2, l3], .inl x :: .inr 10 :: st, w) Q ↔ cf_wp T_S_open (14, [l0, l1, l2, l3], st, (cf_wa w 10 (upd (w 10) 8 x))) Q := cf_w1 rfl
theorem r_S_open_14 {l1 l2 l3 : Option cf_AV} {k : Nat} {st : List cf_AV} {w : cf_Wd} {Q : cf_Rs → Prop} : cf_wp T_S_open (14, [some (.inr k), l1, l2, l3], st, w) Q ↔ cf_wp T_S_open (15, [some (.inr k), l1, l2, l3], .inr k :: st, w) Q := cf_w1 rfl
theorem r_S_open_15 {l0 l1 l2 : Option cf_AV} {x : Int32} {st : List cf_AV} {w : cf_Wd} {Q : cf_Rs → Prop} : cf_wp T_S_open (15, [l0, l1, l2, some (.inl x)], st, w) Q ↔ cf_wp T_S_open (16, [l0, l1, l2, some (.inl x)], .inl x :: st, w) Q := cf_w1 rfl
theorem r_S_open_16 {l0 l1 l2 l3 : Option cf_AV} {x : Int32} {st : List cf_AV} {w : cf_Wd} {Q : cf_Rs → Prop} : cf_wp T_S_open (16, [l0, l1, l2, l3], .inl x :: .inr 10 :: st, w) Q ↔ cf_wp T_S_open (19, [l0, l1, l2, l3], st, (cf_wa w 10 (upd (w 10) 9 x))) Q := cf_w1 rfl
theorem r_S_open_19 {l1 l2 l3 : Option cf_AV} {k : Nat} {st : List cf_AV} {w : cf_Wd} {Q : cf_Rs → Prop} : cf_wp T_S_open (19, [some (.inr k), l1, l2, l3], st, w) Q ↔ cf_wp T_S_open (20, [some (.inr k), l1, l2, l3], .inr k :: st, w) Q := cf_w1 rfl
theorem r_S_open_20 {l0 l1 l2 l3 : Option cf_AV} {st : List cf_AV} {w : cf_Wd} {Q : cf_Rs → Prop} : cf_wp T_S_open (20, [l0, l1, l2, l3], st, w) Q ↔ cf_wp T_S_open (21, [l0, l1, l2, l3], .inl 1 :: st, w) Q := cf_w1 rfl
theorem r_S_open_21 {l0 l1 l2 l3 : Option cf_AV} {x : Int32} {st : List cf_AV} {w : cf_Wd} {Q : cf_Rs → Prop} : cf_wp T_S_open (21, [l0, l1, l2, l3], .inl x :: .inr 10 :: st, w) Q ↔ cf_wp T_S_open (24, [l0, l1, l2, l3], st, (cf_wa w 10 (upd (w 10) 6 x))) Q := cf_w1 rfl
theorem r_S_open_24 {l1 l2 l3 : Option cf_AV} {k : Nat} {st : List cf_AV} {w : cf_Wd} {Q : cf_Rs → Prop} : cf_wp T_S_open (24, [some (.inr k), l1, l2, l3], st, w) Q ↔ cf_wp T_S_open (25, [some (.inr k), l1, l2, l3], .inr k :: st, w) Q := cf_w1 rfl
theorem r_S_open_25 {l0 l1 l2 l3 : Option cf_AV} {w : cf_Wd} {Q : cf_Rs → Prop} : cf_wp T_S_open (25, [l0, l1, l2, l3], [.inr 10], w) Q ↔ ∃ w1, F_S_plan [.inr 10] w = some (none, w1) ∧ cf_wp T_S_open (28, [l0, l1, l2, l3], [], w1) Q := cf_wcv (n := 1) (F := F_S_plan) (nx := 28) rfl rfl cf_F_v
theorem c_S_open_25 {l0 l1 l2 l3 : Option cf_AV} {w1 : cf_Wd} {w : cf_Wd} {Q : cf_Rs → Prop} (hs : F_S_plan [.inr 10] w = some (none, w1)) : cf_wp T_S_open (25, [l0, l1, l2, l3], [.inr 10], w) Q ↔ cf_wp T_S_open (28, [l0, l1, l2, l3], [], w1) Q := r_S_open_25.trans (cf_xv hs)
theorem r_S_open_28 {l0 l1 l2 l3 : Option cf_AV} {w : cf_Wd} {P : cf_Wd → Prop} : cf_wp T_S_open (28, [l0, l1, l2, l3], [], w) (cf_qv P) ↔ P w := Iff.trans (cf_wr (q := (none, w)) rfl) Iff.rfl
theorem e_S_open {a1 a2 a3 : Int32} {w : cf_Wd} {P : cf_Wd → Prop} (h : cf_wp T_S_open (0, [some (.inr 10), some (.inl a1), some (.inl a2), some (.inl a3)], [], w) (cf_qv P)) : ∃ w1, F_S_open [.inr 10, .inl a1, .inl a2, .inl a3] w = some (none, w1) ∧ P w1 := cf_ev rfl (Nat.le_of_ble_eq_true rfl) h
noncomputable def T_C_begin (pc : Nat) : cf_Rw := bif Nat.ble pc 13 then
 (bif Nat.ble pc 5 then
  (bif Nat.ble pc 1 then
   (bif Nat.ble pc 0 then
    (bif Nat.beq pc 0 then cf_aload 0 1 else cf_stuck)
    else
    (bif Nat.beq pc 1 then cf_get 4 0 4 else cf_stuck))
   else
   (bif Nat.ble pc 4 then
    (bif Nat.beq pc 4 then cf_iload 1 5 else cf_stuck)
    else
    (bif Nat.beq pc 5 then cf_iload 2 6 else cf_stuck)))
  else
  (bif Nat.ble pc 9 then
   (bif Nat.ble pc 6 then
    (bif Nat.beq pc 6 then cf_call 3 F_H_isOlderAncestor 9 else cf_stuck)
    else
    (bif Nat.beq pc 9 then cf_ifne 14 12 else cf_stuck))
   else
   (bif Nat.ble pc 12 then
    (bif Nat.beq pc 12 then cf_const 0 13 else cf_stuck)
    else
    (bif Nat.beq pc 13 then cf_iret else cf_stuck))))
 else
 (bif Nat.ble pc 19 then
  (bif Nat.ble pc 15 then
   (bif Nat.ble pc 14 then
    (bif Nat.beq pc 14 then cf_aload 0 15 else cf_stuck)
    else
    (bif Nat.beq pc 15 then cf_get 4 2 18 else cf_stuck))
   else
   (bif Nat.ble pc 18 then
    (bif Nat.beq pc 18 then cf_iload 1 19 else cf_stuck)
    else
    (bif Nat.beq pc 19 then cf_iload 2 20 else cf_stuck)))
  else
  (bif Nat.ble pc 21 then
   (bif Nat.ble pc 20 then
    (bif Nat.beq pc 20 then cf_iload 3 21 else cf_stuck)
    else
    (bif Nat.beq pc 21 then cf_call 4 F_S_open 24 else cf_stuck))
   else
   (bif Nat.ble pc 24 then
    (bif Nat.beq pc 24 then cf_const 1 25 else cf_stuck)
    else
    (bif Nat.beq pc 25 then cf_iret else cf_stuck))))
noncomputable def F_C_begin : List cf_AV → cf_Wd → Option cf_Rs := cf_F T_C_begin 4 (some .boolean) (cf_shV 0 3)
theorem r_C_begin_0 {l1 l2 l3 : Option cf_AV} {k : Nat} {st : List cf_AV} {w : cf_Wd} {Q : cf_Rs → Prop} : cf_wp T_C_begin (0, [some (.inr k), l1, l2, l3], st, w) Q ↔ cf_wp T_C_begin (1, [some (.inr k), l1, l2, l3], .inr k :: st, w) Q := cf_w1 rfl
theorem r_C_begin_1 {l0 l1 l2 l3 : Option cf_AV} {st : List cf_AV} {w : cf_Wd} {Q : cf_Rs → Prop} : cf_wp T_C_begin (1, [l0, l1, l2, l3], .inr 0 :: st, w) Q ↔ cf_wp T_C_begin (4, [l0, l1, l2, l3], .inr 1 :: st, w) Q := cf_w1 rfl
theorem r_C_begin_4 {l0 l2 l3 : Option cf_AV} {x : Int32} {st : List cf_AV} {w : cf_Wd} {Q : cf_Rs → Prop} : cf_wp T_C_begin (4, [l0, some (.inl x), l2, l3], st, w) Q ↔ cf_wp T_C_begin (5, [l0, some (.inl x), l2, l3], .inl x :: st, w) Q := cf_w1 rfl
theorem r_C_begin_5 {l0 l1 l3 : Option cf_AV} {x : Int32} {st : List cf_AV} {w : cf_Wd} {Q : cf_Rs → Prop} : cf_wp T_C_begin (5, [l0, l1, some (.inl x), l3], st, w) Q ↔ cf_wp T_C_begin (6, [l0, l1, some (.inl x), l3], .inl x :: st, w) Q := cf_w1 rfl
theorem r_C_begin_6 {l0 l1 l2 l3 : Option cf_AV} {a2 a1 : Int32} {w : cf_Wd} {Q : cf_Rs → Prop} : cf_wp T_C_begin (6, [l0, l1, l2, l3], [.inl a2, .inl a1, .inr 1], w) Q ↔ ∃ x w1, F_H_isOlderAncestor [.inr 1, .inl a1, .inl a2] w = some (some (.inl x), w1) ∧ cf_wp T_C_begin (9, [l0, l1, l2, l3], [.inl x], w1) Q := cf_wci (n := 3) (F := F_H_isOlderAncestor) (nx := 9) rfl rfl cf_F_b
theorem c_C_begin_6 {l0 l1 l2 l3 : Option cf_AV} {a2 a1 : Int32} {x1 : Int32} {w1 : cf_Wd} {w : cf_Wd} {Q : cf_Rs → Prop} (hs : F_H_isOlderAncestor [.inr 1, .inl a1, .inl a2] w = some (some (.inl x1), w1)) : cf_wp T_C_begin (6, [l0, l1, l2, l3], [.inl a2, .inl a1, .inr 1], w) Q ↔ cf_wp T_C_begin (9, [l0, l1, l2, l3], [.inl x1], w1) Q := r_C_begin_6.trans (cf_xi hs)
theorem r_C_begin_9 {l0 l1 l2 l3 : Option cf_AV} {x : Int32} {st : List cf_AV} {w : cf_Wd} {Q : cf_Rs → Prop} : cf_wp T_C_begin (9, [l0, l1, l2, l3], .inl x :: st, w) Q ↔ (if ¬ x = 0 then cf_wp T_C_begin (14, [l0, l1, l2, l3], st, w) Q else cf_wp T_C_begin (12, [l0, l1, l2, l3], st, w) Q) := cf_wi rfl
theorem r_C_begin_12 {l0 l1 l2 l3 : Option cf_AV} {st : List cf_AV} {w : cf_Wd} {Q : cf_Rs → Prop} : cf_wp T_C_begin (12, [l0, l1, l2, l3], st, w) Q ↔ cf_wp T_C_begin (13, [l0, l1, l2, l3], .inl 0 :: st, w) Q := cf_w1 rfl
theorem r_C_begin_13 {l0 l1 l2 l3 : Option cf_AV} {x : Int32} {w : cf_Wd} {P : Int32 → cf_Wd → Prop} : cf_wp T_C_begin (13, [l0, l1, l2, l3], [.inl x], w) (cf_qb P) ↔ ((x = 0 ∨ x = 1) ∧ P x w) := Iff.trans (cf_wr (q := (some (.inl x), w)) rfl) Iff.rfl
theorem r_C_begin_14 {l1 l2 l3 : Option cf_AV} {k : Nat} {st : List cf_AV} {w : cf_Wd} {Q : cf_Rs → Prop} : cf_wp T_C_begin (14, [some (.inr k), l1, l2, l3], st, w) Q ↔ cf_wp T_C_begin (15, [some (.inr k), l1, l2, l3], .inr k :: st, w) Q := cf_w1 rfl
theorem r_C_begin_15 {l0 l1 l2 l3 : Option cf_AV} {st : List cf_AV} {w : cf_Wd} {Q : cf_Rs → Prop} : cf_wp T_C_begin (15, [l0, l1, l2, l3], .inr 0 :: st, w) Q ↔ cf_wp T_C_begin (18, [l0, l1, l2, l3], .inr 10 :: st, w) Q := cf_w1 rfl
theorem r_C_begin_18 {l0 l2 l3 : Option cf_AV} {x : Int32} {st : List cf_AV} {w : cf_Wd} {Q : cf_Rs → Prop} : cf_wp T_C_begin (18, [l0, some (.inl x), l2, l3], st, w) Q ↔ cf_wp T_C_begin (19, [l0, some (.inl x), l2, l3], .inl x :: st, w) Q := cf_w1 rfl
theorem r_C_begin_19 {l0 l1 l3 : Option cf_AV} {x : Int32} {st : List cf_AV} {w : cf_Wd} {Q : cf_Rs → Prop} : cf_wp T_C_begin (19, [l0, l1, some (.inl x), l3], st, w) Q ↔ cf_wp T_C_begin (20, [l0, l1, some (.inl x), l3], .inl x :: st, w) Q := cf_w1 rfl
theorem r_C_begin_20 {l0 l1 l2 : Option cf_AV} {x : Int32} {st : List cf_AV} {w : cf_Wd} {Q : cf_Rs → Prop} : cf_wp T_C_begin (20, [l0, l1, l2, some (.inl x)], st, w) Q ↔ cf_wp T_C_begin (21, [l0, l1, l2, some (.inl x)], .inl x :: st, w) Q := cf_w1 rfl
theorem r_C_begin_21 {l0 l1 l2 l3 : Option cf_AV} {a3 a2 a1 : Int32} {w : cf_Wd} {Q : cf_Rs → Prop} : cf_wp T_C_begin (21, [l0, l1, l2, l3], [.inl a3, .inl a2, .inl a1, .inr 10], w) Q ↔ ∃ w1, F_S_open [.inr 10, .inl a1, .inl a2, .inl a3] w = some (none, w1) ∧ cf_wp T_C_begin (24, [l0, l1, l2, l3], [], w1) Q := cf_wcv (n := 4) (F := F_S_open) (nx := 24) rfl rfl cf_F_v
theorem c_C_begin_21 {l0 l1 l2 l3 : Option cf_AV} {a3 a2 a1 : Int32} {w1 : cf_Wd} {w : cf_Wd} {Q : cf_Rs → Prop} (hs : F_S_open [.inr 10, .inl a1, .inl a2, .inl a3] w = some (none, w1)) : cf_wp T_C_begin (21, [l0, l1, l2, l3], [.inl a3, .inl a2, .inl a1, .inr 10], w) Q ↔ cf_wp T_C_begin (24, [l0, l1, l2, l3], [], w1) Q := r_C_begin_21.trans (cf_xv hs)
theorem r_C_begin_24 {l0 l1 l2 l3 : Option cf_AV} {st : List cf_AV} {w : cf_Wd} {Q : cf_Rs → Prop} : cf_wp T_C_begin (24, [l0, l1, l2, l3], st, w) Q ↔ cf_wp T_C_begin (25, [l0, l1, l2, l3], .inl 1 :: st, w) Q := cf_w1 rfl
theorem r_C_begin_25 {l0 l1 l2 l3 : Option cf_AV} {x : Int32} {w : cf_Wd} {P : Int32 → cf_Wd → Prop} : cf_wp T_C_begin (25, [l0, l1, l2, l3], [.inl x], w) (cf_qb P) ↔ ((x = 0 ∨ x = 1) ∧ P x w) := Iff.trans (cf_wr (q := (some (.inl x), w)) rfl) Iff.rfl
theorem e_C_begin {a1 a2 a3 : Int32} {w : cf_Wd} {P : Int32 → cf_Wd → Prop} (h : cf_wp T_C_begin (0, [some (.inr 0), some (.inl a1), some (.inl a2), some (.inl a3)], [], w) (cf_qb P)) : ∃ x w1, F_C_begin [.inr 0, .inl a1, .inl a2, .inl a3] w = some (some (.inl x), w1) ∧ P x w1 := cf_eb rfl (Nat.le_of_ble_eq_true rfl) h
noncomputable def T_C_end (pc : Nat) : cf_Rw := bif Nat.ble pc 10 then
 (bif Nat.ble pc 1 then
  (bif Nat.ble pc 0 then
   (bif Nat.beq pc 0 then cf_aload 0 1 else cf_stuck)
   else
   (bif Nat.beq pc 1 then cf_get 4 2 4 else cf_stuck))
  else
  (bif Nat.ble pc 4 then
   (bif Nat.beq pc 4 then cf_get 3 6 7 else cf_stuck)
   else
   (bif Nat.ble pc 7 then
    (bif Nat.beq pc 7 then cf_ifne 12 10 else cf_stuck)
    else
    (bif Nat.beq pc 10 then cf_const 0 11 else cf_stuck))))
 else
 (bif Nat.ble pc 13 then
  (bif Nat.ble pc 11 then
   (bif Nat.beq pc 11 then cf_iret else cf_stuck)
   else
   (bif Nat.ble pc 12 then
    (bif Nat.beq pc 12 then cf_aload 0 13 else cf_stuck)
    else
    (bif Nat.beq pc 13 then cf_get 4 2 16 else cf_stuck)))
  else
  (bif Nat.ble pc 16 then
   (bif Nat.beq pc 16 then cf_call 1 F_S_close 19 else cf_stuck)
   else
   (bif Nat.ble pc 19 then
    (bif Nat.beq pc 19 then cf_const 1 20 else cf_stuck)
    else
    (bif Nat.beq pc 20 then cf_iret else cf_stuck))))
noncomputable def F_C_end : List cf_AV → cf_Wd → Option cf_Rs := cf_F T_C_end 1 (some .boolean) (cf_shV 0 0)
theorem r_C_end_0 {k : Nat} {st : List cf_AV} {w : cf_Wd} {Q : cf_Rs → Prop} : cf_wp T_C_end (0, [some (.inr k)], st, w) Q ↔ cf_wp T_C_end (1, [some (.inr k)], .inr k :: st, w) Q := cf_w1 rfl
theorem r_C_end_1 {l0 : Option cf_AV} {st : List cf_AV} {w : cf_Wd} {Q : cf_Rs → Prop} : cf_wp T_C_end (1, [l0], .inr 0 :: st, w) Q ↔ cf_wp T_C_end (4, [l0], .inr 10 :: st, w) Q := cf_w1 rfl
theorem r_C_end_4 {l0 : Option cf_AV} {st : List cf_AV} {w : cf_Wd} {Q : cf_Rs → Prop} : cf_wp T_C_end (4, [l0], .inr 10 :: st, w) Q ↔ cf_wp T_C_end (7, [l0], .inl (w 10 6) :: st, w) Q := cf_w1 rfl
theorem r_C_end_7 {l0 : Option cf_AV} {x : Int32} {st : List cf_AV} {w : cf_Wd} {Q : cf_Rs → Prop} : cf_wp T_C_end (7, [l0], .inl x :: st, w) Q ↔ (if ¬ x = 0 then cf_wp T_C_end (12, [l0], st, w) Q else cf_wp T_C_end (10, [l0], st, w) Q) := cf_wi rfl
theorem r_C_end_10 {l0 : Option cf_AV} {st : List cf_AV} {w : cf_Wd} {Q : cf_Rs → Prop} : cf_wp T_C_end (10, [l0], st, w) Q ↔ cf_wp T_C_end (11, [l0], .inl 0 :: st, w) Q := cf_w1 rfl
theorem r_C_end_11 {l0 : Option cf_AV} {x : Int32} {w : cf_Wd} {P : Int32 → cf_Wd → Prop} : cf_wp T_C_end (11, [l0], [.inl x], w) (cf_qb P) ↔ ((x = 0 ∨ x = 1) ∧ P x w) := Iff.trans (cf_wr (q := (some (.inl x), w)) rfl) Iff.rfl
theorem r_C_end_12 {k : Nat} {st : List cf_AV} {w : cf_Wd} {Q : cf_Rs → Prop} : cf_wp T_C_end (12, [some (.inr k)], st, w) Q ↔ cf_wp T_C_end (13, [some (.inr k)], .inr k :: st, w) Q := cf_w1 rfl
theorem r_C_end_13 {l0 : Option cf_AV} {st : List cf_AV} {w : cf_Wd} {Q : cf_Rs → Prop} : cf_wp T_C_end (13, [l0], .inr 0 :: st, w) Q ↔ cf_wp T_C_end (16, [l0], .inr 10 :: st, w) Q := cf_w1 rfl
theorem r_C_end_16 {l0 : Option cf_AV} {w : cf_Wd} {Q : cf_Rs → Prop} : cf_wp T_C_end (16, [l0], [.inr 10], w) Q ↔ ∃ w1, F_S_close [.inr 10] w = some (none, w1) ∧ cf_wp T_C_end (19, [l0], [], w1) Q := cf_wcv (n := 1) (F := F_S_close) (nx := 19) rfl rfl cf_F_v
theorem c_C_end_16 {l0 : Option cf_AV} {w1 : cf_Wd} {w : cf_Wd} {Q : cf_Rs → Prop} (hs : F_S_close [.inr 10] w = some (none, w1)) : cf_wp T_C_end (16, [l0], [.inr 10], w) Q ↔ cf_wp T_C_end (19, [l0], [], w1) Q := r_C_end_16.trans (cf_xv hs)
theorem r_C_end_19 {l0 : Option cf_AV} {st : List cf_AV} {w : cf_Wd} {Q : cf_Rs → Prop} : cf_wp T_C_end (19, [l0], st, w) Q ↔ cf_wp T_C_end (20, [l0], .inl 1 :: st, w) Q := cf_w1 rfl
theorem r_C_end_20 {l0 : Option cf_AV} {x : Int32} {w : cf_Wd} {P : Int32 → cf_Wd → Prop} : cf_wp T_C_end (20, [l0], [.inl x], w) (cf_qb P) ↔ ((x = 0 ∨ x = 1) ∧ P x w) := Iff.trans (cf_wr (q := (some (.inl x), w)) rfl) Iff.rfl
theorem e_C_end {w : cf_Wd} {P : Int32 → cf_Wd → Prop} (h : cf_wp T_C_end (0, [some (.inr 0)], [], w) (cf_qb P)) : ∃ x w1, F_C_end [.inr 0] w = some (some (.inl x), w1) ∧ P x w1 := cf_eb rfl (Nat.le_of_ble_eq_true rfl) h
noncomputable def T_C_next (pc : Nat) : cf_Rw := bif Nat.ble pc 1 then
 (bif Nat.ble pc 0 then
  (bif Nat.beq pc 0 then cf_aload 0 1 else cf_stuck)
  else
  (bif Nat.beq pc 1 then cf_get 4 2 4 else cf_stuck))
 else
 (bif Nat.ble pc 4 then
  (bif Nat.beq pc 4 then cf_get 3 14 7 else cf_stuck)
  else
  (bif Nat.beq pc 7 then cf_iret else cf_stuck))
noncomputable def F_C_next : List cf_AV → cf_Wd → Option cf_Rs := cf_F T_C_next 1 (some .int) (cf_shV 0 0)
theorem r_C_next_0 {k : Nat} {st : List cf_AV} {w : cf_Wd} {Q : cf_Rs → Prop} : cf_wp T_C_next (0, [some (.inr k)], st, w) Q ↔ cf_wp T_C_next (1, [some (.inr k)], .inr k :: st, w) Q := cf_w1 rfl
theorem r_C_next_1 {l0 : Option cf_AV} {st : List cf_AV} {w : cf_Wd} {Q : cf_Rs → Prop} : cf_wp T_C_next (1, [l0], .inr 0 :: st, w) Q ↔ cf_wp T_C_next (4, [l0], .inr 10 :: st, w) Q := cf_w1 rfl
theorem r_C_next_4 {l0 : Option cf_AV} {st : List cf_AV} {w : cf_Wd} {Q : cf_Rs → Prop} : cf_wp T_C_next (4, [l0], .inr 10 :: st, w) Q ↔ cf_wp T_C_next (7, [l0], .inl (w 10 14) :: st, w) Q := cf_w1 rfl
theorem r_C_next_7 {l0 : Option cf_AV} {x : Int32} {w : cf_Wd} {P : Int32 → cf_Wd → Prop} : cf_wp T_C_next (7, [l0], [.inl x], w) (cf_qi P) ↔ P x w := Iff.trans (cf_wr (q := (some (.inl x), w)) rfl) Iff.rfl
theorem e_C_next {w : cf_Wd} {P : Int32 → cf_Wd → Prop} (h : cf_wp T_C_next (0, [some (.inr 0)], [], w) (cf_qi P)) : ∃ x w1, F_C_next [.inr 0] w = some (some (.inl x), w1) ∧ P x w1 := cf_ei rfl (Nat.le_of_ble_eq_true rfl) h
noncomputable def T_S_startTest (pc : Nat) : cf_Rw := bif Nat.ble pc 17 then
 (bif Nat.ble pc 8 then
  (bif Nat.ble pc 1 then
   (bif Nat.ble pc 0 then
    (bif Nat.beq pc 0 then cf_aload 0 1 else cf_stuck)
    else
    (bif Nat.beq pc 1 then cf_get 3 14 4 else cf_stuck))
   else
   (bif Nat.ble pc 4 then
    (bif Nat.beq pc 4 then cf_const (-1) 5 else cf_stuck)
    else
    (bif Nat.ble pc 5 then
     (bif Nat.beq pc 5 then cf_iceq 15 8 else cf_stuck)
     else
     (bif Nat.beq pc 8 then cf_aload 0 9 else cf_stuck))))
  else
  (bif Nat.ble pc 12 then
   (bif Nat.ble pc 9 then
    (bif Nat.beq pc 9 then cf_get 3 15 12 else cf_stuck)
    else
    (bif Nat.beq pc 12 then cf_ifeq 17 15 else cf_stuck))
   else
   (bif Nat.ble pc 15 then
    (bif Nat.beq pc 15 then cf_const 0 16 else cf_stuck)
    else
    (bif Nat.ble pc 16 then
     (bif Nat.beq pc 16 then cf_iret else cf_stuck)
     else
     (bif Nat.beq pc 17 then cf_aload 0 18 else cf_stuck)))))
 else
 (bif Nat.ble pc 24 then
  (bif Nat.ble pc 19 then
   (bif Nat.ble pc 18 then
    (bif Nat.beq pc 18 then cf_const 1 19 else cf_stuck)
    else
    (bif Nat.beq pc 19 then cf_putz 3 15 22 else cf_stuck))
   else
   (bif Nat.ble pc 22 then
    (bif Nat.beq pc 22 then cf_aload 0 23 else cf_stuck)
    else
    (bif Nat.ble pc 23 then
     (bif Nat.beq pc 23 then cf_dup 24 else cf_stuck)
     else
     (bif Nat.beq pc 24 then cf_get 3 16 27 else cf_stuck))))
  else
  (bif Nat.ble pc 28 then
   (bif Nat.ble pc 27 then
    (bif Nat.beq pc 27 then cf_const 1 28 else cf_stuck)
    else
    (bif Nat.beq pc 28 then cf_bin (fun x y => x + y) 29 else cf_stuck))
   else
   (bif Nat.ble pc 29 then
    (bif Nat.beq pc 29 then cf_put 3 16 32 else cf_stuck)
    else
    (bif Nat.ble pc 32 then
     (bif Nat.beq pc 32 then cf_const 1 33 else cf_stuck)
     else
     (bif Nat.beq pc 33 then cf_iret else cf_stuck)))))
noncomputable def F_S_startTest : List cf_AV → cf_Wd → Option cf_Rs := cf_F T_S_startTest 1 (some .boolean) (cf_shV 10 0)
theorem r_S_startTest_0 {k : Nat} {st : List cf_AV} {w : cf_Wd} {Q : cf_Rs → Prop} : cf_wp T_S_startTest (0, [some (.inr k)], st, w) Q ↔ cf_wp T_S_startTest (1, [some (.inr k)], .inr k :: st, w) Q := cf_w1 rfl
theorem r_S_startTest_1 {l0 : Option cf_AV} {st : List cf_AV} {w : cf_Wd} {Q : cf_Rs → Prop} : cf_wp T_S_startTest (1, [l0], .inr 10 :: st, w) Q ↔ cf_wp T_S_startTest (4, [l0], .inl (w 10 14) :: st, w) Q := cf_w1 rfl
theorem r_S_startTest_4 {l0 : Option cf_AV} {st : List cf_AV} {w : cf_Wd} {Q : cf_Rs → Prop} : cf_wp T_S_startTest (4, [l0], st, w) Q ↔ cf_wp T_S_startTest (5, [l0], .inl (-1) :: st, w) Q := cf_w1 rfl
theorem r_S_startTest_5 {l0 : Option cf_AV} {x y : Int32} {st : List cf_AV} {w : cf_Wd} {Q : cf_Rs → Prop} : cf_wp T_S_startTest (5, [l0], .inl y :: .inl x :: st, w) Q ↔ (if x = y then cf_wp T_S_startTest (15, [l0], st, w) Q else cf_wp T_S_startTest (8, [l0], st, w) Q) := cf_wi rfl
theorem r_S_startTest_8 {k : Nat} {st : List cf_AV} {w : cf_Wd} {Q : cf_Rs → Prop} : cf_wp T_S_startTest (8, [some (.inr k)], st, w) Q ↔ cf_wp T_S_startTest (9, [some (.inr k)], .inr k :: st, w) Q := cf_w1 rfl
theorem r_S_startTest_9 {l0 : Option cf_AV} {st : List cf_AV} {w : cf_Wd} {Q : cf_Rs → Prop} : cf_wp T_S_startTest (9, [l0], .inr 10 :: st, w) Q ↔ cf_wp T_S_startTest (12, [l0], .inl (w 10 15) :: st, w) Q := cf_w1 rfl
theorem r_S_startTest_12 {l0 : Option cf_AV} {x : Int32} {st : List cf_AV} {w : cf_Wd} {Q : cf_Rs → Prop} : cf_wp T_S_startTest (12, [l0], .inl x :: st, w) Q ↔ (if x = 0 then cf_wp T_S_startTest (17, [l0], st, w) Q else cf_wp T_S_startTest (15, [l0], st, w) Q) := cf_wi rfl
theorem r_S_startTest_15 {l0 : Option cf_AV} {st : List cf_AV} {w : cf_Wd} {Q : cf_Rs → Prop} : cf_wp T_S_startTest (15, [l0], st, w) Q ↔ cf_wp T_S_startTest (16, [l0], .inl 0 :: st, w) Q := cf_w1 rfl
theorem r_S_startTest_16 {l0 : Option cf_AV} {x : Int32} {w : cf_Wd} {P : Int32 → cf_Wd → Prop} : cf_wp T_S_startTest (16, [l0], [.inl x], w) (cf_qb P) ↔ ((x = 0 ∨ x = 1) ∧ P x w) := Iff.trans (cf_wr (q := (some (.inl x), w)) rfl) Iff.rfl
theorem r_S_startTest_17 {k : Nat} {st : List cf_AV} {w : cf_Wd} {Q : cf_Rs → Prop} : cf_wp T_S_startTest (17, [some (.inr k)], st, w) Q ↔ cf_wp T_S_startTest (18, [some (.inr k)], .inr k :: st, w) Q := cf_w1 rfl
theorem r_S_startTest_18 {l0 : Option cf_AV} {st : List cf_AV} {w : cf_Wd} {Q : cf_Rs → Prop} : cf_wp T_S_startTest (18, [l0], st, w) Q ↔ cf_wp T_S_startTest (19, [l0], .inl 1 :: st, w) Q := cf_w1 rfl
theorem r_S_startTest_19 {l0 : Option cf_AV} {x : Int32} {st : List cf_AV} {w : cf_Wd} {Q : cf_Rs → Prop} : cf_wp T_S_startTest (19, [l0], .inl x :: .inr 10 :: st, w) Q ↔ ((x == 0 || x == 1) = true ∧ cf_wp T_S_startTest (22, [l0], st, (cf_wa w 10 (upd (w 10) 15 x))) Q) := cf_wg rfl
theorem r_S_startTest_22 {k : Nat} {st : List cf_AV} {w : cf_Wd} {Q : cf_Rs → Prop} : cf_wp T_S_startTest (22, [some (.inr k)], st, w) Q ↔ cf_wp T_S_startTest (23, [some (.inr k)], .inr k :: st, w) Q := cf_w1 rfl
theorem r_S_startTest_23 {l0 : Option cf_AV} {v : cf_AV} {st : List cf_AV} {w : cf_Wd} {Q : cf_Rs → Prop} : cf_wp T_S_startTest (23, [l0], v :: st, w) Q ↔ cf_wp T_S_startTest (24, [l0], v :: v :: st, w) Q := cf_w1 rfl
theorem r_S_startTest_24 {l0 : Option cf_AV} {st : List cf_AV} {w : cf_Wd} {Q : cf_Rs → Prop} : cf_wp T_S_startTest (24, [l0], .inr 10 :: st, w) Q ↔ cf_wp T_S_startTest (27, [l0], .inl (w 10 16) :: st, w) Q := cf_w1 rfl
theorem r_S_startTest_27 {l0 : Option cf_AV} {st : List cf_AV} {w : cf_Wd} {Q : cf_Rs → Prop} : cf_wp T_S_startTest (27, [l0], st, w) Q ↔ cf_wp T_S_startTest (28, [l0], .inl 1 :: st, w) Q := cf_w1 rfl
theorem r_S_startTest_28 {l0 : Option cf_AV} {x y : Int32} {st : List cf_AV} {w : cf_Wd} {Q : cf_Rs → Prop} : cf_wp T_S_startTest (28, [l0], .inl y :: .inl x :: st, w) Q ↔ cf_wp T_S_startTest (29, [l0], .inl (x + y) :: st, w) Q := cf_w1 rfl
theorem r_S_startTest_29 {l0 : Option cf_AV} {x : Int32} {st : List cf_AV} {w : cf_Wd} {Q : cf_Rs → Prop} : cf_wp T_S_startTest (29, [l0], .inl x :: .inr 10 :: st, w) Q ↔ cf_wp T_S_startTest (32, [l0], st, (cf_wa w 10 (upd (w 10) 16 x))) Q := cf_w1 rfl
theorem r_S_startTest_32 {l0 : Option cf_AV} {st : List cf_AV} {w : cf_Wd} {Q : cf_Rs → Prop} : cf_wp T_S_startTest (32, [l0], st, w) Q ↔ cf_wp T_S_startTest (33, [l0], .inl 1 :: st, w) Q := cf_w1 rfl
theorem r_S_startTest_33 {l0 : Option cf_AV} {x : Int32} {w : cf_Wd} {P : Int32 → cf_Wd → Prop} : cf_wp T_S_startTest (33, [l0], [.inl x], w) (cf_qb P) ↔ ((x = 0 ∨ x = 1) ∧ P x w) := Iff.trans (cf_wr (q := (some (.inl x), w)) rfl) Iff.rfl
theorem e_S_startTest {w : cf_Wd} {P : Int32 → cf_Wd → Prop} (h : cf_wp T_S_startTest (0, [some (.inr 10)], [], w) (cf_qb P)) : ∃ x w1, F_S_startTest [.inr 10] w = some (some (.inl x), w1) ∧ P x w1 := cf_eb rfl (Nat.le_of_ble_eq_true rfl) h
noncomputable def T_C_start (pc : Nat) : cf_Rw := bif Nat.ble pc 1 then
 (bif Nat.ble pc 0 then
  (bif Nat.beq pc 0 then cf_aload 0 1 else cf_stuck)
  else
  (bif Nat.beq pc 1 then cf_get 4 2 4 else cf_stuck))
 else
 (bif Nat.ble pc 4 then
  (bif Nat.beq pc 4 then cf_call 1 F_S_startTest 7 else cf_stuck)
  else
  (bif Nat.beq pc 7 then cf_iret else cf_stuck))
noncomputable def F_C_start : List cf_AV → cf_Wd → Option cf_Rs := cf_F T_C_start 1 (some .boolean) (cf_shV 0 0)
theorem r_C_start_0 {k : Nat} {st : List cf_AV} {w : cf_Wd} {Q : cf_Rs → Prop} : cf_wp T_C_start (0, [some (.inr k)], st, w) Q ↔ cf_wp T_C_start (1, [some (.inr k)], .inr k :: st, w) Q := cf_w1 rfl
theorem r_C_start_1 {l0 : Option cf_AV} {st : List cf_AV} {w : cf_Wd} {Q : cf_Rs → Prop} : cf_wp T_C_start (1, [l0], .inr 0 :: st, w) Q ↔ cf_wp T_C_start (4, [l0], .inr 10 :: st, w) Q := cf_w1 rfl
theorem r_C_start_4 {l0 : Option cf_AV} {w : cf_Wd} {Q : cf_Rs → Prop} : cf_wp T_C_start (4, [l0], [.inr 10], w) Q ↔ ∃ x w1, F_S_startTest [.inr 10] w = some (some (.inl x), w1) ∧ cf_wp T_C_start (7, [l0], [.inl x], w1) Q := cf_wci (n := 1) (F := F_S_startTest) (nx := 7) rfl rfl cf_F_b
theorem c_C_start_4 {l0 : Option cf_AV} {x1 : Int32} {w1 : cf_Wd} {w : cf_Wd} {Q : cf_Rs → Prop} (hs : F_S_startTest [.inr 10] w = some (some (.inl x1), w1)) : cf_wp T_C_start (4, [l0], [.inr 10], w) Q ↔ cf_wp T_C_start (7, [l0], [.inl x1], w1) Q := r_C_start_4.trans (cf_xi hs)
theorem r_C_start_7 {l0 : Option cf_AV} {x : Int32} {w : cf_Wd} {P : Int32 → cf_Wd → Prop} : cf_wp T_C_start (7, [l0], [.inl x], w) (cf_qb P) ↔ ((x = 0 ∨ x = 1) ∧ P x w) := Iff.trans (cf_wr (q := (some (.inl x), w)) rfl) Iff.rfl
theorem e_C_start {w : cf_Wd} {P : Int32 → cf_Wd → Prop} (h : cf_wp T_C_start (0, [some (.inr 0)], [], w) (cf_qb P)) : ∃ x w1, F_C_start [.inr 0] w = some (some (.inl x), w1) ∧ P x w1 := cf_eb rfl (Nat.le_of_ble_eq_true rfl) h
noncomputable def T_S_judgeUpcoming (pc : Nat) : cf_Rw := bif Nat.ble pc 41 then
 (bif Nat.ble pc 19 then
  (bif Nat.ble pc 10 then
   (bif Nat.ble pc 1 then
    (bif Nat.ble pc 0 then
     (bif Nat.beq pc 0 then cf_aload 0 1 else cf_stuck)
     else
     (bif Nat.beq pc 1 then cf_get 3 14 4 else cf_stuck))
    else
    (bif Nat.ble pc 4 then
     (bif Nat.beq pc 4 then cf_const 1000 7 else cf_stuck)
     else
     (bif Nat.ble pc 7 then
      (bif Nat.beq pc 7 then cf_iclt 59 10 else cf_stuck)
      else
      (bif Nat.beq pc 10 then cf_aload 0 11 else cf_stuck))))
   else
   (bif Nat.ble pc 14 then
    (bif Nat.ble pc 11 then
     (bif Nat.beq pc 11 then cf_get 3 1 14 else cf_stuck)
     else
     (bif Nat.beq pc 14 then cf_aload 0 15 else cf_stuck))
    else
    (bif Nat.ble pc 15 then
     (bif Nat.beq pc 15 then cf_get 3 0 18 else cf_stuck)
     else
     (bif Nat.ble pc 18 then
      (bif Nat.beq pc 18 then cf_aload 0 19 else cf_stuck)
      else
      (bif Nat.beq pc 19 then cf_get 3 0 22 else cf_stuck)))))
  else
  (bif Nat.ble pc 30 then
   (bif Nat.ble pc 25 then
    (bif Nat.ble pc 22 then
     (bif Nat.beq pc 22 then cf_get 0 0 25 else cf_stuck)
     else
     (bif Nat.beq pc 25 then cf_aload 0 26 else cf_stuck))
    else
    (bif Nat.ble pc 26 then
     (bif Nat.beq pc 26 then cf_get 3 13 29 else cf_stuck)
     else
     (bif Nat.ble pc 29 then
      (bif Nat.beq pc 29 then cf_iald 30 else cf_stuck)
      else
      (bif Nat.beq pc 30 then cf_call 3 F_M_load 33 else cf_stuck))))
   else
   (bif Nat.ble pc 34 then
    (bif Nat.ble pc 33 then
     (bif Nat.beq pc 33 then cf_aload 0 34 else cf_stuck)
     else
     (bif Nat.beq pc 34 then cf_get 3 1 37 else cf_stuck))
    else
    (bif Nat.ble pc 37 then
     (bif Nat.beq pc 37 then cf_aload 0 38 else cf_stuck)
     else
     (bif Nat.ble pc 38 then
      (bif Nat.beq pc 38 then cf_get 3 0 41 else cf_stuck)
      else
      (bif Nat.beq pc 41 then cf_aload 0 42 else cf_stuck))))))
 else
 (bif Nat.ble pc 63 then
  (bif Nat.ble pc 52 then
   (bif Nat.ble pc 45 then
    (bif Nat.ble pc 42 then
     (bif Nat.beq pc 42 then cf_get 3 13 45 else cf_stuck)
     else
     (bif Nat.beq pc 45 then cf_aload 0 46 else cf_stuck))
    else
    (bif Nat.ble pc 46 then
     (bif Nat.beq pc 46 then cf_get 3 14 49 else cf_stuck)
     else
     (bif Nat.ble pc 49 then
      (bif Nat.beq pc 49 then cf_const 1000 52 else cf_stuck)
      else
      (bif Nat.beq pc 52 then cf_bin (fun x y => x - y) 53 else cf_stuck))))
   else
   (bif Nat.ble pc 56 then
    (bif Nat.ble pc 53 then
     (bif Nat.beq pc 53 then cf_call 4 F_M_loadLines 56 else cf_stuck)
     else
     (bif Nat.beq pc 56 then cf_goto 74 else cf_stuck))
    else
    (bif Nat.ble pc 59 then
     (bif Nat.beq pc 59 then cf_aload 0 60 else cf_stuck)
     else
     (bif Nat.ble pc 60 then
      (bif Nat.beq pc 60 then cf_get 3 1 63 else cf_stuck)
      else
      (bif Nat.beq pc 63 then cf_aload 0 64 else cf_stuck)))))
  else
  (bif Nat.ble pc 74 then
   (bif Nat.ble pc 67 then
    (bif Nat.ble pc 64 then
     (bif Nat.beq pc 64 then cf_get 3 0 67 else cf_stuck)
     else
     (bif Nat.beq pc 67 then cf_aload 0 68 else cf_stuck))
    else
    (bif Nat.ble pc 68 then
     (bif Nat.beq pc 68 then cf_get 3 14 71 else cf_stuck)
     else
     (bif Nat.ble pc 71 then
      (bif Nat.beq pc 71 then cf_call 3 F_M_load 74 else cf_stuck)
      else
      (bif Nat.beq pc 74 then cf_aload 0 75 else cf_stuck))))
   else
   (bif Nat.ble pc 78 then
    (bif Nat.ble pc 75 then
     (bif Nat.beq pc 75 then cf_get 3 1 78 else cf_stuck)
     else
     (bif Nat.beq pc 78 then cf_aload 0 79 else cf_stuck))
    else
    (bif Nat.ble pc 79 then
     (bif Nat.beq pc 79 then cf_get 3 9 82 else cf_stuck)
     else
     (bif Nat.ble pc 82 then
      (bif Nat.beq pc 82 then cf_call 2 F_M_judge 85 else cf_stuck)
      else
      (bif Nat.beq pc 85 then cf_iret else cf_stuck))))))
noncomputable def F_S_judgeUpcoming : List cf_AV → cf_Wd → Option cf_Rs := cf_F T_S_judgeUpcoming 1 (some .int) (cf_shV 10 0)
theorem r_S_judgeUpcoming_0 {k : Nat} {st : List cf_AV} {w : cf_Wd} {Q : cf_Rs → Prop} : cf_wp T_S_judgeUpcoming (0, [some (.inr k)], st, w) Q ↔ cf_wp T_S_judgeUpcoming (1, [some (.inr k)], .inr k :: st, w) Q := cf_w1 rfl
theorem r_S_judgeUpcoming_1 {l0 : Option cf_AV} {st : List cf_AV} {w : cf_Wd} {Q : cf_Rs → Prop} : cf_wp T_S_judgeUpcoming (1, [l0], .inr 10 :: st, w) Q ↔ cf_wp T_S_judgeUpcoming (4, [l0], .inl (w 10 14) :: st, w) Q := cf_w1 rfl
theorem r_S_judgeUpcoming_4 {l0 : Option cf_AV} {st : List cf_AV} {w : cf_Wd} {Q : cf_Rs → Prop} : cf_wp T_S_judgeUpcoming (4, [l0], st, w) Q ↔ cf_wp T_S_judgeUpcoming (7, [l0], .inl 1000 :: st, w) Q := cf_w1 rfl
theorem r_S_judgeUpcoming_7 {l0 : Option cf_AV} {x y : Int32} {st : List cf_AV} {w : cf_Wd} {Q : cf_Rs → Prop} : cf_wp T_S_judgeUpcoming (7, [l0], .inl y :: .inl x :: st, w) Q ↔ (if x < y then cf_wp T_S_judgeUpcoming (59, [l0], st, w) Q else cf_wp T_S_judgeUpcoming (10, [l0], st, w) Q) := cf_wi rfl
theorem r_S_judgeUpcoming_10 {k : Nat} {st : List cf_AV} {w : cf_Wd} {Q : cf_Rs → Prop} : cf_wp T_S_judgeUpcoming (10, [some (.inr k)], st, w) Q ↔ cf_wp T_S_judgeUpcoming (11, [some (.inr k)], .inr k :: st, w) Q := cf_w1 rfl
theorem r_S_judgeUpcoming_11 {l0 : Option cf_AV} {st : List cf_AV} {w : cf_Wd} {Q : cf_Rs → Prop} : cf_wp T_S_judgeUpcoming (11, [l0], .inr 10 :: st, w) Q ↔ cf_wp T_S_judgeUpcoming (14, [l0], .inr 5 :: st, w) Q := cf_w1 rfl
theorem r_S_judgeUpcoming_14 {k : Nat} {st : List cf_AV} {w : cf_Wd} {Q : cf_Rs → Prop} : cf_wp T_S_judgeUpcoming (14, [some (.inr k)], st, w) Q ↔ cf_wp T_S_judgeUpcoming (15, [some (.inr k)], .inr k :: st, w) Q := cf_w1 rfl
theorem r_S_judgeUpcoming_15 {l0 : Option cf_AV} {st : List cf_AV} {w : cf_Wd} {Q : cf_Rs → Prop} : cf_wp T_S_judgeUpcoming (15, [l0], .inr 10 :: st, w) Q ↔ cf_wp T_S_judgeUpcoming (18, [l0], .inr 1 :: st, w) Q := cf_w1 rfl
theorem r_S_judgeUpcoming_18 {k : Nat} {st : List cf_AV} {w : cf_Wd} {Q : cf_Rs → Prop} : cf_wp T_S_judgeUpcoming (18, [some (.inr k)], st, w) Q ↔ cf_wp T_S_judgeUpcoming (19, [some (.inr k)], .inr k :: st, w) Q := cf_w1 rfl
theorem r_S_judgeUpcoming_19 {l0 : Option cf_AV} {st : List cf_AV} {w : cf_Wd} {Q : cf_Rs → Prop} : cf_wp T_S_judgeUpcoming (19, [l0], .inr 10 :: st, w) Q ↔ cf_wp T_S_judgeUpcoming (22, [l0], .inr 1 :: st, w) Q := cf_w1 rfl
theorem r_S_judgeUpcoming_22 {l0 : Option cf_AV} {st : List cf_AV} {w : cf_Wd} {Q : cf_Rs → Prop} : cf_wp T_S_judgeUpcoming (22, [l0], .inr 1 :: st, w) Q ↔ cf_wp T_S_judgeUpcoming (25, [l0], .inr 2 :: st, w) Q := cf_w1 rfl
theorem r_S_judgeUpcoming_25 {k : Nat} {st : List cf_AV} {w : cf_Wd} {Q : cf_Rs → Prop} : cf_wp T_S_judgeUpcoming (25, [some (.inr k)], st, w) Q ↔ cf_wp T_S_judgeUpcoming (26, [some (.inr k)], .inr k :: st, w) Q := cf_w1 rfl
theorem r_S_judgeUpcoming_26 {l0 : Option cf_AV} {st : List cf_AV} {w : cf_Wd} {Q : cf_Rs → Prop} : cf_wp T_S_judgeUpcoming (26, [l0], .inr 10 :: st, w) Q ↔ cf_wp T_S_judgeUpcoming (29, [l0], .inl (w 10 13) :: st, w) Q := cf_w1 rfl
theorem r_S_judgeUpcoming_29 {l0 : Option cf_AV} {i : Int32} {st : List cf_AV} {w : cf_Wd} {Q : cf_Rs → Prop} : cf_wp T_S_judgeUpcoming (29, [l0], .inl i :: .inr 2 :: st, w) Q ↔ (cf_in i 14 = true ∧ cf_wp T_S_judgeUpcoming (30, [l0], .inl (w 2 i.toNatClampNeg) :: st, w) Q) := cf_wg rfl
theorem r_S_judgeUpcoming_30 {l0 : Option cf_AV} {a2 : Int32} {w : cf_Wd} {Q : cf_Rs → Prop} : cf_wp T_S_judgeUpcoming (30, [l0], [.inl a2, .inr 1, .inr 5], w) Q ↔ ∃ w1, F_M_load [.inr 5, .inr 1, .inl a2] w = some (none, w1) ∧ cf_wp T_S_judgeUpcoming (33, [l0], [], w1) Q := cf_wcv (n := 3) (F := F_M_load) (nx := 33) rfl rfl cf_F_v
theorem c_S_judgeUpcoming_30 {l0 : Option cf_AV} {a2 : Int32} {w1 : cf_Wd} {w : cf_Wd} {Q : cf_Rs → Prop} (hs : F_M_load [.inr 5, .inr 1, .inl a2] w = some (none, w1)) : cf_wp T_S_judgeUpcoming (30, [l0], [.inl a2, .inr 1, .inr 5], w) Q ↔ cf_wp T_S_judgeUpcoming (33, [l0], [], w1) Q := r_S_judgeUpcoming_30.trans (cf_xv hs)
theorem r_S_judgeUpcoming_33 {k : Nat} {st : List cf_AV} {w : cf_Wd} {Q : cf_Rs → Prop} : cf_wp T_S_judgeUpcoming (33, [some (.inr k)], st, w) Q ↔ cf_wp T_S_judgeUpcoming (34, [some (.inr k)], .inr k :: st, w) Q := cf_w1 rfl
theorem r_S_judgeUpcoming_34 {l0 : Option cf_AV} {st : List cf_AV} {w : cf_Wd} {Q : cf_Rs → Prop} : cf_wp T_S_judgeUpcoming (34, [l0], .inr 10 :: st, w) Q ↔ cf_wp T_S_judgeUpcoming (37, [l0], .inr 5 :: st, w) Q := cf_w1 rfl
theorem r_S_judgeUpcoming_37 {k : Nat} {st : List cf_AV} {w : cf_Wd} {Q : cf_Rs → Prop} : cf_wp T_S_judgeUpcoming (37, [some (.inr k)], st, w) Q ↔ cf_wp T_S_judgeUpcoming (38, [some (.inr k)], .inr k :: st, w) Q := cf_w1 rfl
theorem r_S_judgeUpcoming_38 {l0 : Option cf_AV} {st : List cf_AV} {w : cf_Wd} {Q : cf_Rs → Prop} : cf_wp T_S_judgeUpcoming (38, [l0], .inr 10 :: st, w) Q ↔ cf_wp T_S_judgeUpcoming (41, [l0], .inr 1 :: st, w) Q := cf_w1 rfl
theorem r_S_judgeUpcoming_41 {k : Nat} {st : List cf_AV} {w : cf_Wd} {Q : cf_Rs → Prop} : cf_wp T_S_judgeUpcoming (41, [some (.inr k)], st, w) Q ↔ cf_wp T_S_judgeUpcoming (42, [some (.inr k)], .inr k :: st, w) Q := cf_w1 rfl
theorem r_S_judgeUpcoming_42 {l0 : Option cf_AV} {st : List cf_AV} {w : cf_Wd} {Q : cf_Rs → Prop} : cf_wp T_S_judgeUpcoming (42, [l0], .inr 10 :: st, w) Q ↔ cf_wp T_S_judgeUpcoming (45, [l0], .inl (w 10 13) :: st, w) Q := cf_w1 rfl
theorem r_S_judgeUpcoming_45 {k : Nat} {st : List cf_AV} {w : cf_Wd} {Q : cf_Rs → Prop} : cf_wp T_S_judgeUpcoming (45, [some (.inr k)], st, w) Q ↔ cf_wp T_S_judgeUpcoming (46, [some (.inr k)], .inr k :: st, w) Q := cf_w1 rfl
theorem r_S_judgeUpcoming_46 {l0 : Option cf_AV} {st : List cf_AV} {w : cf_Wd} {Q : cf_Rs → Prop} : cf_wp T_S_judgeUpcoming (46, [l0], .inr 10 :: st, w) Q ↔ cf_wp T_S_judgeUpcoming (49, [l0], .inl (w 10 14) :: st, w) Q := cf_w1 rfl
theorem r_S_judgeUpcoming_49 {l0 : Option cf_AV} {st : List cf_AV} {w : cf_Wd} {Q : cf_Rs → Prop} : cf_wp T_S_judgeUpcoming (49, [l0], st, w) Q ↔ cf_wp T_S_judgeUpcoming (52, [l0], .inl 1000 :: st, w) Q := cf_w1 rfl
theorem r_S_judgeUpcoming_52 {l0 : Option cf_AV} {x y : Int32} {st : List cf_AV} {w : cf_Wd} {Q : cf_Rs → Prop} : cf_wp T_S_judgeUpcoming (52, [l0], .inl y :: .inl x :: st, w) Q ↔ cf_wp T_S_judgeUpcoming (53, [l0], .inl (x - y) :: st, w) Q := cf_w1 rfl
theorem r_S_judgeUpcoming_53 {l0 : Option cf_AV} {a3 a2 : Int32} {w : cf_Wd} {Q : cf_Rs → Prop} : cf_wp T_S_judgeUpcoming (53, [l0], [.inl a3, .inl a2, .inr 1, .inr 5], w) Q ↔ ∃ w1, F_M_loadLines [.inr 5, .inr 1, .inl a2, .inl a3] w = some (none, w1) ∧ cf_wp T_S_judgeUpcoming (56, [l0], [], w1) Q := cf_wcv (n := 4) (F := F_M_loadLines) (nx := 56) rfl rfl cf_F_v
theorem c_S_judgeUpcoming_53 {l0 : Option cf_AV} {a3 a2 : Int32} {w1 : cf_Wd} {w : cf_Wd} {Q : cf_Rs → Prop} (hs : F_M_loadLines [.inr 5, .inr 1, .inl a2, .inl a3] w = some (none, w1)) : cf_wp T_S_judgeUpcoming (53, [l0], [.inl a3, .inl a2, .inr 1, .inr 5], w) Q ↔ cf_wp T_S_judgeUpcoming (56, [l0], [], w1) Q := r_S_judgeUpcoming_53.trans (cf_xv hs)
theorem r_S_judgeUpcoming_56 {l0 : Option cf_AV} {st : List cf_AV} {w : cf_Wd} {Q : cf_Rs → Prop} : cf_wp T_S_judgeUpcoming (56, [l0], st, w) Q ↔ cf_wp T_S_judgeUpcoming (74, [l0], st, w) Q := cf_w1 rfl
theorem r_S_judgeUpcoming_59 {k : Nat} {st : List cf_AV} {w : cf_Wd} {Q : cf_Rs → Prop} : cf_wp T_S_judgeUpcoming (59, [some (.inr k)], st, w) Q ↔ cf_wp T_S_judgeUpcoming (60, [some (.inr k)], .inr k :: st, w) Q := cf_w1 rfl
theorem r_S_judgeUpcoming_60 {l0 : Option cf_AV} {st : List cf_AV} {w : cf_Wd} {Q : cf_Rs → Prop} : cf_wp T_S_judgeUpcoming (60, [l0], .inr 10 :: st, w) Q ↔ cf_wp T_S_judgeUpcoming (63, [l0], .inr 5 :: st, w) Q := cf_w1 rfl
theorem r_S_judgeUpcoming_63 {k : Nat} {st : List cf_AV} {w : cf_Wd} {Q : cf_Rs → Prop} : cf_wp T_S_judgeUpcoming (63, [some (.inr k)], st, w) Q ↔ cf_wp T_S_judgeUpcoming (64, [some (.inr k)], .inr k :: st, w) Q := cf_w1 rfl
theorem r_S_judgeUpcoming_64 {l0 : Option cf_AV} {st : List cf_AV} {w : cf_Wd} {Q : cf_Rs → Prop} : cf_wp T_S_judgeUpcoming (64, [l0], .inr 10 :: st, w) Q ↔ cf_wp T_S_judgeUpcoming (67, [l0], .inr 1 :: st, w) Q := cf_w1 rfl
theorem r_S_judgeUpcoming_67 {k : Nat} {st : List cf_AV} {w : cf_Wd} {Q : cf_Rs → Prop} : cf_wp T_S_judgeUpcoming (67, [some (.inr k)], st, w) Q ↔ cf_wp T_S_judgeUpcoming (68, [some (.inr k)], .inr k :: st, w) Q := cf_w1 rfl
theorem r_S_judgeUpcoming_68 {l0 : Option cf_AV} {st : List cf_AV} {w : cf_Wd} {Q : cf_Rs → Prop} : cf_wp T_S_judgeUpcoming (68, [l0], .inr 10 :: st, w) Q ↔ cf_wp T_S_judgeUpcoming (71, [l0], .inl (w 10 14) :: st, w) Q := cf_w1 rfl
theorem r_S_judgeUpcoming_71 {l0 : Option cf_AV} {a2 : Int32} {w : cf_Wd} {Q : cf_Rs → Prop} : cf_wp T_S_judgeUpcoming (71, [l0], [.inl a2, .inr 1, .inr 5], w) Q ↔ ∃ w1, F_M_load [.inr 5, .inr 1, .inl a2] w = some (none, w1) ∧ cf_wp T_S_judgeUpcoming (74, [l0], [], w1) Q := cf_wcv (n := 3) (F := F_M_load) (nx := 74) rfl rfl cf_F_v
theorem c_S_judgeUpcoming_71 {l0 : Option cf_AV} {a2 : Int32} {w1 : cf_Wd} {w : cf_Wd} {Q : cf_Rs → Prop} (hs : F_M_load [.inr 5, .inr 1, .inl a2] w = some (none, w1)) : cf_wp T_S_judgeUpcoming (71, [l0], [.inl a2, .inr 1, .inr 5], w) Q ↔ cf_wp T_S_judgeUpcoming (74, [l0], [], w1) Q := r_S_judgeUpcoming_71.trans (cf_xv hs)
theorem r_S_judgeUpcoming_74 {k : Nat} {st : List cf_AV} {w : cf_Wd} {Q : cf_Rs → Prop} : cf_wp T_S_judgeUpcoming (74, [some (.inr k)], st, w) Q ↔ cf_wp T_S_judgeUpcoming (75, [some (.inr k)], .inr k :: st, w) Q := cf_w1 rfl
theorem r_S_judgeUpcoming_75 {l0 : Option cf_AV} {st : List cf_AV} {w : cf_Wd} {Q : cf_Rs → Prop} : cf_wp T_S_judgeUpcoming (75, [l0], .inr 10 :: st, w) Q ↔ cf_wp T_S_judgeUpcoming (78, [l0], .inr 5 :: st, w) Q := cf_w1 rfl
theorem r_S_judgeUpcoming_78 {k : Nat} {st : List cf_AV} {w : cf_Wd} {Q : cf_Rs → Prop} : cf_wp T_S_judgeUpcoming (78, [some (.inr k)], st, w) Q ↔ cf_wp T_S_judgeUpcoming (79, [some (.inr k)], .inr k :: st, w) Q := cf_w1 rfl
theorem r_S_judgeUpcoming_79 {l0 : Option cf_AV} {st : List cf_AV} {w : cf_Wd} {Q : cf_Rs → Prop} : cf_wp T_S_judgeUpcoming (79, [l0], .inr 10 :: st, w) Q ↔ cf_wp T_S_judgeUpcoming (82, [l0], .inl (w 10 9) :: st, w) Q := cf_w1 rfl
theorem r_S_judgeUpcoming_82 {l0 : Option cf_AV} {a1 : Int32} {w : cf_Wd} {Q : cf_Rs → Prop} : cf_wp T_S_judgeUpcoming (82, [l0], [.inl a1, .inr 5], w) Q ↔ ∃ x w1, F_M_judge [.inr 5, .inl a1] w = some (some (.inl x), w1) ∧ cf_wp T_S_judgeUpcoming (85, [l0], [.inl x], w1) Q := cf_wci (n := 2) (F := F_M_judge) (nx := 85) rfl rfl cf_F_i
theorem c_S_judgeUpcoming_82 {l0 : Option cf_AV} {a1 : Int32} {x1 : Int32} {w1 : cf_Wd} {w : cf_Wd} {Q : cf_Rs → Prop} (hs : F_M_judge [.inr 5, .inl a1] w = some (some (.inl x1), w1)) : cf_wp T_S_judgeUpcoming (82, [l0], [.inl a1, .inr 5], w) Q ↔ cf_wp T_S_judgeUpcoming (85, [l0], [.inl x1], w1) Q := r_S_judgeUpcoming_82.trans (cf_xi hs)
theorem r_S_judgeUpcoming_85 {l0 : Option cf_AV} {x : Int32} {w : cf_Wd} {P : Int32 → cf_Wd → Prop} : cf_wp T_S_judgeUpcoming (85, [l0], [.inl x], w) (cf_qi P) ↔ P x w := Iff.trans (cf_wr (q := (some (.inl x), w)) rfl) Iff.rfl
theorem e_S_judgeUpcoming {w : cf_Wd} {P : Int32 → cf_Wd → Prop} (h : cf_wp T_S_judgeUpcoming (0, [some (.inr 10)], [], w) (cf_qi P)) : ∃ x w1, F_S_judgeUpcoming [.inr 10] w = some (some (.inl x), w1) ∧ P x w1 := cf_ei rfl (Nat.le_of_ble_eq_true rfl) h
noncomputable def T_R_keepVerdict (pc : Nat) : cf_Rw := bif Nat.ble pc 4 then
 (bif Nat.ble pc 0 then
  (bif Nat.beq pc 0 then cf_aload 0 1 else cf_stuck)
  else
  (bif Nat.ble pc 1 then
   (bif Nat.beq pc 1 then cf_get 2 0 4 else cf_stuck)
   else
   (bif Nat.beq pc 4 then cf_iload 1 5 else cf_stuck)))
 else
 (bif Nat.ble pc 5 then
  (bif Nat.beq pc 5 then cf_iload 2 6 else cf_stuck)
  else
  (bif Nat.ble pc 6 then
   (bif Nat.beq pc 6 then cf_iast 7 else cf_stuck)
   else
   (bif Nat.beq pc 7 then cf_vret else cf_stuck)))
noncomputable def F_R_keepVerdict : List cf_AV → cf_Wd → Option cf_Rs := cf_F T_R_keepVerdict 3 none (cf_shV 11 2)
theorem r_R_keepVerdict_0 {l1 l2 : Option cf_AV} {k : Nat} {st : List cf_AV} {w : cf_Wd} {Q : cf_Rs → Prop} : cf_wp T_R_keepVerdict (0, [some (.inr k), l1, l2], st, w) Q ↔ cf_wp T_R_keepVerdict (1, [some (.inr k), l1, l2], .inr k :: st, w) Q := cf_w1 rfl
theorem r_R_keepVerdict_1 {l0 l1 l2 : Option cf_AV} {st : List cf_AV} {w : cf_Wd} {Q : cf_Rs → Prop} : cf_wp T_R_keepVerdict (1, [l0, l1, l2], .inr 11 :: st, w) Q ↔ cf_wp T_R_keepVerdict (4, [l0, l1, l2], .inr 12 :: st, w) Q := cf_w1 rfl
theorem r_R_keepVerdict_4 {l0 l2 : Option cf_AV} {x : Int32} {st : List cf_AV} {w : cf_Wd} {Q : cf_Rs → Prop} : cf_wp T_R_keepVerdict (4, [l0, some (.inl x), l2], st, w) Q ↔ cf_wp T_R_keepVerdict (5, [l0, some (.inl x), l2], .inl x :: st, w) Q := cf_w1 rfl
theorem r_R_keepVerdict_5 {l0 l1 : Option cf_AV} {x : Int32} {st : List cf_AV} {w : cf_Wd} {Q : cf_Rs → Prop} : cf_wp T_R_keepVerdict (5, [l0, l1, some (.inl x)], st, w) Q ↔ cf_wp T_R_keepVerdict (6, [l0, l1, some (.inl x)], .inl x :: st, w) Q := cf_w1 rfl
theorem r_R_keepVerdict_6 {l0 l1 l2 : Option cf_AV} {x i : Int32} {st : List cf_AV} {w : cf_Wd} {Q : cf_Rs → Prop} : cf_wp T_R_keepVerdict (6, [l0, l1, l2], .inl x :: .inl i :: .inr 12 :: st, w) Q ↔ (cf_in i 256 = true ∧ cf_wp T_R_keepVerdict (7, [l0, l1, l2], st, (cf_wa w 12 (upd (w 12) i.toNatClampNeg x))) Q) := cf_wg rfl
theorem r_R_keepVerdict_7 {l0 l1 l2 : Option cf_AV} {w : cf_Wd} {P : cf_Wd → Prop} : cf_wp T_R_keepVerdict (7, [l0, l1, l2], [], w) (cf_qv P) ↔ P w := Iff.trans (cf_wr (q := (none, w)) rfl) Iff.rfl
theorem e_R_keepVerdict {a1 a2 : Int32} {w : cf_Wd} {P : cf_Wd → Prop} (h : cf_wp T_R_keepVerdict (0, [some (.inr 11), some (.inl a1), some (.inl a2)], [], w) (cf_qv P)) : ∃ w1, F_R_keepVerdict [.inr 11, .inl a1, .inl a2] w = some (none, w1) ∧ P w1 := cf_ev rfl (Nat.le_of_ble_eq_true rfl) h
noncomputable def T_S_keepVerdict (pc : Nat) : cf_Rw := bif Nat.ble pc 29 then
 (bif Nat.ble pc 16 then
  (bif Nat.ble pc 7 then
   (bif Nat.ble pc 1 then
    (bif Nat.ble pc 0 then
     (bif Nat.beq pc 0 then cf_iload 1 1 else cf_stuck)
     else
     (bif Nat.beq pc 1 then cf_const 1000 4 else cf_stuck))
    else
    (bif Nat.ble pc 4 then
     (bif Nat.beq pc 4 then cf_iclt 21 7 else cf_stuck)
     else
     (bif Nat.beq pc 7 then cf_aload 0 8 else cf_stuck)))
   else
   (bif Nat.ble pc 11 then
    (bif Nat.ble pc 8 then
     (bif Nat.beq pc 8 then cf_get 3 2 11 else cf_stuck)
     else
     (bif Nat.beq pc 11 then cf_iload 1 12 else cf_stuck))
    else
    (bif Nat.ble pc 12 then
     (bif Nat.beq pc 12 then cf_const 1000 15 else cf_stuck)
     else
     (bif Nat.ble pc 15 then
      (bif Nat.beq pc 15 then cf_bin (fun x y => x - y) 16 else cf_stuck)
      else
      (bif Nat.beq pc 16 then cf_iload 2 17 else cf_stuck)))))
  else
  (bif Nat.ble pc 22 then
   (bif Nat.ble pc 20 then
    (bif Nat.ble pc 17 then
     (bif Nat.beq pc 17 then cf_call 3 F_R_keepVerdict 20 else cf_stuck)
     else
     (bif Nat.beq pc 20 then cf_vret else cf_stuck))
    else
    (bif Nat.ble pc 21 then
     (bif Nat.beq pc 21 then cf_aload 0 22 else cf_stuck)
     else
     (bif Nat.beq pc 22 then cf_get 3 4 25 else cf_stuck)))
   else
   (bif Nat.ble pc 26 then
    (bif Nat.ble pc 25 then
     (bif Nat.beq pc 25 then cf_iload 1 26 else cf_stuck)
     else
     (bif Nat.beq pc 26 then cf_iload 2 27 else cf_stuck))
    else
    (bif Nat.ble pc 27 then
     (bif Nat.beq pc 27 then cf_iast 28 else cf_stuck)
     else
     (bif Nat.ble pc 28 then
      (bif Nat.beq pc 28 then cf_iload 2 29 else cf_stuck)
      else
      (bif Nat.beq pc 29 then cf_const 2 30 else cf_stuck))))))
 else
 (bif Nat.ble pc 46 then
  (bif Nat.ble pc 35 then
   (bif Nat.ble pc 33 then
    (bif Nat.ble pc 30 then
     (bif Nat.beq pc 30 then cf_icne 41 33 else cf_stuck)
     else
     (bif Nat.beq pc 33 then cf_aload 0 34 else cf_stuck))
    else
    (bif Nat.ble pc 34 then
     (bif Nat.beq pc 34 then cf_iload 1 35 else cf_stuck)
     else
     (bif Nat.beq pc 35 then cf_put 3 10 38 else cf_stuck)))
   else
   (bif Nat.ble pc 41 then
    (bif Nat.ble pc 38 then
     (bif Nat.beq pc 38 then cf_goto 64 else cf_stuck)
     else
     (bif Nat.beq pc 41 then cf_iload 2 42 else cf_stuck))
    else
    (bif Nat.ble pc 42 then
     (bif Nat.beq pc 42 then cf_const 1 43 else cf_stuck)
     else
     (bif Nat.ble pc 43 then
      (bif Nat.beq pc 43 then cf_icne 64 46 else cf_stuck)
      else
      (bif Nat.beq pc 46 then cf_aload 0 47 else cf_stuck)))))
  else
  (bif Nat.ble pc 55 then
   (bif Nat.ble pc 48 then
    (bif Nat.ble pc 47 then
     (bif Nat.beq pc 47 then cf_dup 48 else cf_stuck)
     else
     (bif Nat.beq pc 48 then cf_get 3 11 51 else cf_stuck))
    else
    (bif Nat.ble pc 51 then
     (bif Nat.beq pc 51 then cf_aload 0 52 else cf_stuck)
     else
     (bif Nat.ble pc 52 then
      (bif Nat.beq pc 52 then cf_get 3 0 55 else cf_stuck)
      else
      (bif Nat.beq pc 55 then cf_get 0 1 58 else cf_stuck))))
   else
   (bif Nat.ble pc 59 then
    (bif Nat.ble pc 58 then
     (bif Nat.beq pc 58 then cf_iload 1 59 else cf_stuck)
     else
     (bif Nat.beq pc 59 then cf_iald 60 else cf_stuck))
    else
    (bif Nat.ble pc 60 then
     (bif Nat.beq pc 60 then cf_bin (fun x y => x ||| y) 61 else cf_stuck)
     else
     (bif Nat.ble pc 61 then
      (bif Nat.beq pc 61 then cf_put 3 11 64 else cf_stuck)
      else
      (bif Nat.beq pc 64 then cf_vret else cf_stuck))))))
noncomputable def F_S_keepVerdict : List cf_AV → cf_Wd → Option cf_Rs := cf_F T_S_keepVerdict 3 none (cf_shV 10 2)
theorem r_S_keepVerdict_0 {l0 l2 : Option cf_AV} {x : Int32} {st : List cf_AV} {w : cf_Wd} {Q : cf_Rs → Prop} : cf_wp T_S_keepVerdict (0, [l0, some (.inl x), l2], st, w) Q ↔ cf_wp T_S_keepVerdict (1, [l0, some (.inl x), l2], .inl x :: st, w) Q := cf_w1 rfl
theorem r_S_keepVerdict_1 {l0 l1 l2 : Option cf_AV} {st : List cf_AV} {w : cf_Wd} {Q : cf_Rs → Prop} : cf_wp T_S_keepVerdict (1, [l0, l1, l2], st, w) Q ↔ cf_wp T_S_keepVerdict (4, [l0, l1, l2], .inl 1000 :: st, w) Q := cf_w1 rfl
theorem r_S_keepVerdict_4 {l0 l1 l2 : Option cf_AV} {x y : Int32} {st : List cf_AV} {w : cf_Wd} {Q : cf_Rs → Prop} : cf_wp T_S_keepVerdict (4, [l0, l1, l2], .inl y :: .inl x :: st, w) Q ↔ (if x < y then cf_wp T_S_keepVerdict (21, [l0, l1, l2], st, w) Q else cf_wp T_S_keepVerdict (7, [l0, l1, l2], st, w) Q) := cf_wi rfl
theorem r_S_keepVerdict_7 {l1 l2 : Option cf_AV} {k : Nat} {st : List cf_AV} {w : cf_Wd} {Q : cf_Rs → Prop} : cf_wp T_S_keepVerdict (7, [some (.inr k), l1, l2], st, w) Q ↔ cf_wp T_S_keepVerdict (8, [some (.inr k), l1, l2], .inr k :: st, w) Q := cf_w1 rfl
theorem r_S_keepVerdict_8 {l0 l1 l2 : Option cf_AV} {st : List cf_AV} {w : cf_Wd} {Q : cf_Rs → Prop} : cf_wp T_S_keepVerdict (8, [l0, l1, l2], .inr 10 :: st, w) Q ↔ cf_wp T_S_keepVerdict (11, [l0, l1, l2], .inr 11 :: st, w) Q := cf_w1 rfl
theorem r_S_keepVerdict_11 {l0 l2 : Option cf_AV} {x : Int32} {st : List cf_AV} {w : cf_Wd} {Q : cf_Rs → Prop} : cf_wp T_S_keepVerdict (11, [l0, some (.inl x), l2], st, w) Q ↔ cf_wp T_S_keepVerdict (12, [l0, some (.inl x), l2], .inl x :: st, w) Q := cf_w1 rfl
theorem r_S_keepVerdict_12 {l0 l1 l2 : Option cf_AV} {st : List cf_AV} {w : cf_Wd} {Q : cf_Rs → Prop} : cf_wp T_S_keepVerdict (12, [l0, l1, l2], st, w) Q ↔ cf_wp T_S_keepVerdict (15, [l0, l1, l2], .inl 1000 :: st, w) Q := cf_w1 rfl
theorem r_S_keepVerdict_15 {l0 l1 l2 : Option cf_AV} {x y : Int32} {st : List cf_AV} {w : cf_Wd} {Q : cf_Rs → Prop} : cf_wp T_S_keepVerdict (15, [l0, l1, l2], .inl y :: .inl x :: st, w) Q ↔ cf_wp T_S_keepVerdict (16, [l0, l1, l2], .inl (x - y) :: st, w) Q := cf_w1 rfl
theorem r_S_keepVerdict_16 {l0 l1 : Option cf_AV} {x : Int32} {st : List cf_AV} {w : cf_Wd} {Q : cf_Rs → Prop} : cf_wp T_S_keepVerdict (16, [l0, l1, some (.inl x)], st, w) Q ↔ cf_wp T_S_keepVerdict (17, [l0, l1, some (.inl x)], .inl x :: st, w) Q := cf_w1 rfl
theorem r_S_keepVerdict_17 {l0 l1 l2 : Option cf_AV} {a2 a1 : Int32} {w : cf_Wd} {Q : cf_Rs → Prop} : cf_wp T_S_keepVerdict (17, [l0, l1, l2], [.inl a2, .inl a1, .inr 11], w) Q ↔ ∃ w1, F_R_keepVerdict [.inr 11, .inl a1, .inl a2] w = some (none, w1) ∧ cf_wp T_S_keepVerdict (20, [l0, l1, l2], [], w1) Q := cf_wcv (n := 3) (F := F_R_keepVerdict) (nx := 20) rfl rfl cf_F_v
theorem c_S_keepVerdict_17 {l0 l1 l2 : Option cf_AV} {a2 a1 : Int32} {w1 : cf_Wd} {w : cf_Wd} {Q : cf_Rs → Prop} (hs : F_R_keepVerdict [.inr 11, .inl a1, .inl a2] w = some (none, w1)) : cf_wp T_S_keepVerdict (17, [l0, l1, l2], [.inl a2, .inl a1, .inr 11], w) Q ↔ cf_wp T_S_keepVerdict (20, [l0, l1, l2], [], w1) Q := r_S_keepVerdict_17.trans (cf_xv hs)
theorem r_S_keepVerdict_20 {l0 l1 l2 : Option cf_AV} {w : cf_Wd} {P : cf_Wd → Prop} : cf_wp T_S_keepVerdict (20, [l0, l1, l2], [], w) (cf_qv P) ↔ P w := Iff.trans (cf_wr (q := (none, w)) rfl) Iff.rfl
theorem r_S_keepVerdict_21 {l1 l2 : Option cf_AV} {k : Nat} {st : List cf_AV} {w : cf_Wd} {Q : cf_Rs → Prop} : cf_wp T_S_keepVerdict (21, [some (.inr k), l1, l2], st, w) Q ↔ cf_wp T_S_keepVerdict (22, [some (.inr k), l1, l2], .inr k :: st, w) Q := cf_w1 rfl
theorem r_S_keepVerdict_22 {l0 l1 l2 : Option cf_AV} {st : List cf_AV} {w : cf_Wd} {Q : cf_Rs → Prop} : cf_wp T_S_keepVerdict (22, [l0, l1, l2], .inr 10 :: st, w) Q ↔ cf_wp T_S_keepVerdict (25, [l0, l1, l2], .inr 14 :: st, w) Q := cf_w1 rfl
theorem r_S_keepVerdict_25 {l0 l2 : Option cf_AV} {x : Int32} {st : List cf_AV} {w : cf_Wd} {Q : cf_Rs → Prop} : cf_wp T_S_keepVerdict (25, [l0, some (.inl x), l2], st, w) Q ↔ cf_wp T_S_keepVerdict (26, [l0, some (.inl x), l2], .inl x :: st, w) Q := cf_w1 rfl
theorem r_S_keepVerdict_26 {l0 l1 : Option cf_AV} {x : Int32} {st : List cf_AV} {w : cf_Wd} {Q : cf_Rs → Prop} : cf_wp T_S_keepVerdict (26, [l0, l1, some (.inl x)], st, w) Q ↔ cf_wp T_S_keepVerdict (27, [l0, l1, some (.inl x)], .inl x :: st, w) Q := cf_w1 rfl
theorem r_S_keepVerdict_27 {l0 l1 l2 : Option cf_AV} {x i : Int32} {st : List cf_AV} {w : cf_Wd} {Q : cf_Rs → Prop} : cf_wp T_S_keepVerdict (27, [l0, l1, l2], .inl x :: .inl i :: .inr 14 :: st, w) Q ↔ (cf_in i 14 = true ∧ cf_wp T_S_keepVerdict (28, [l0, l1, l2], st, (cf_wa w 14 (upd (w 14) i.toNatClampNeg x))) Q) := cf_wg rfl
theorem r_S_keepVerdict_28 {l0 l1 : Option cf_AV} {x : Int32} {st : List cf_AV} {w : cf_Wd} {Q : cf_Rs → Prop} : cf_wp T_S_keepVerdict (28, [l0, l1, some (.inl x)], st, w) Q ↔ cf_wp T_S_keepVerdict (29, [l0, l1, some (.inl x)], .inl x :: st, w) Q := cf_w1 rfl
theorem r_S_keepVerdict_29 {l0 l1 l2 : Option cf_AV} {st : List cf_AV} {w : cf_Wd} {Q : cf_Rs → Prop} : cf_wp T_S_keepVerdict (29, [l0, l1, l2], st, w) Q ↔ cf_wp T_S_keepVerdict (30, [l0, l1, l2], .inl 2 :: st, w) Q := cf_w1 rfl
theorem r_S_keepVerdict_30 {l0 l1 l2 : Option cf_AV} {x y : Int32} {st : List cf_AV} {w : cf_Wd} {Q : cf_Rs → Prop} : cf_wp T_S_keepVerdict (30, [l0, l1, l2], .inl y :: .inl x :: st, w) Q ↔ (if ¬ x = y then cf_wp T_S_keepVerdict (41, [l0, l1, l2], st, w) Q else cf_wp T_S_keepVerdict (33, [l0, l1, l2], st, w) Q) := cf_wi rfl
theorem r_S_keepVerdict_33 {l1 l2 : Option cf_AV} {k : Nat} {st : List cf_AV} {w : cf_Wd} {Q : cf_Rs → Prop} : cf_wp T_S_keepVerdict (33, [some (.inr k), l1, l2], st, w) Q ↔ cf_wp T_S_keepVerdict (34, [some (.inr k), l1, l2], .inr k :: st, w) Q := cf_w1 rfl
theorem r_S_keepVerdict_34 {l0 l2 : Option cf_AV} {x : Int32} {st : List cf_AV} {w : cf_Wd} {Q : cf_Rs → Prop} : cf_wp T_S_keepVerdict (34, [l0, some (.inl x), l2], st, w) Q ↔ cf_wp T_S_keepVerdict (35, [l0, some (.inl x), l2], .inl x :: st, w) Q := cf_w1 rfl
theorem r_S_keepVerdict_35 {l0 l1 l2 : Option cf_AV} {x : Int32} {st : List cf_AV} {w : cf_Wd} {Q : cf_Rs → Prop} : cf_wp T_S_keepVerdict (35, [l0, l1, l2], .inl x :: .inr 10 :: st, w) Q ↔ cf_wp T_S_keepVerdict (38, [l0, l1, l2], st, (cf_wa w 10 (upd (w 10) 10 x))) Q := cf_w1 rfl
theorem r_S_keepVerdict_38 {l0 l1 l2 : Option cf_AV} {st : List cf_AV} {w : cf_Wd} {Q : cf_Rs → Prop} : cf_wp T_S_keepVerdict (38, [l0, l1, l2], st, w) Q ↔ cf_wp T_S_keepVerdict (64, [l0, l1, l2], st, w) Q := cf_w1 rfl
theorem r_S_keepVerdict_41 {l0 l1 : Option cf_AV} {x : Int32} {st : List cf_AV} {w : cf_Wd} {Q : cf_Rs → Prop} : cf_wp T_S_keepVerdict (41, [l0, l1, some (.inl x)], st, w) Q ↔ cf_wp T_S_keepVerdict (42, [l0, l1, some (.inl x)], .inl x :: st, w) Q := cf_w1 rfl
theorem r_S_keepVerdict_42 {l0 l1 l2 : Option cf_AV} {st : List cf_AV} {w : cf_Wd} {Q : cf_Rs → Prop} : cf_wp T_S_keepVerdict (42, [l0, l1, l2], st, w) Q ↔ cf_wp T_S_keepVerdict (43, [l0, l1, l2], .inl 1 :: st, w) Q := cf_w1 rfl
theorem r_S_keepVerdict_43 {l0 l1 l2 : Option cf_AV} {x y : Int32} {st : List cf_AV} {w : cf_Wd} {Q : cf_Rs → Prop} : cf_wp T_S_keepVerdict (43, [l0, l1, l2], .inl y :: .inl x :: st, w) Q ↔ (if ¬ x = y then cf_wp T_S_keepVerdict (64, [l0, l1, l2], st, w) Q else cf_wp T_S_keepVerdict (46, [l0, l1, l2], st, w) Q) := cf_wi rfl
theorem r_S_keepVerdict_46 {l1 l2 : Option cf_AV} {k : Nat} {st : List cf_AV} {w : cf_Wd} {Q : cf_Rs → Prop} : cf_wp T_S_keepVerdict (46, [some (.inr k), l1, l2], st, w) Q ↔ cf_wp T_S_keepVerdict (47, [some (.inr k), l1, l2], .inr k :: st, w) Q := cf_w1 rfl
theorem r_S_keepVerdict_47 {l0 l1 l2 : Option cf_AV} {v : cf_AV} {st : List cf_AV} {w : cf_Wd} {Q : cf_Rs → Prop} : cf_wp T_S_keepVerdict (47, [l0, l1, l2], v :: st, w) Q ↔ cf_wp T_S_keepVerdict (48, [l0, l1, l2], v :: v :: st, w) Q := cf_w1 rfl
theorem r_S_keepVerdict_48 {l0 l1 l2 : Option cf_AV} {st : List cf_AV} {w : cf_Wd} {Q : cf_Rs → Prop} : cf_wp T_S_keepVerdict (48, [l0, l1, l2], .inr 10 :: st, w) Q ↔ cf_wp T_S_keepVerdict (51, [l0, l1, l2], .inl (w 10 11) :: st, w) Q := cf_w1 rfl
theorem r_S_keepVerdict_51 {l1 l2 : Option cf_AV} {k : Nat} {st : List cf_AV} {w : cf_Wd} {Q : cf_Rs → Prop} : cf_wp T_S_keepVerdict (51, [some (.inr k), l1, l2], st, w) Q ↔ cf_wp T_S_keepVerdict (52, [some (.inr k), l1, l2], .inr k :: st, w) Q := cf_w1 rfl
theorem r_S_keepVerdict_52 {l0 l1 l2 : Option cf_AV} {st : List cf_AV} {w : cf_Wd} {Q : cf_Rs → Prop} : cf_wp T_S_keepVerdict (52, [l0, l1, l2], .inr 10 :: st, w) Q ↔ cf_wp T_S_keepVerdict (55, [l0, l1, l2], .inr 1 :: st, w) Q := cf_w1 rfl
theorem r_S_keepVerdict_55 {l0 l1 l2 : Option cf_AV} {st : List cf_AV} {w : cf_Wd} {Q : cf_Rs → Prop} : cf_wp T_S_keepVerdict (55, [l0, l1, l2], .inr 1 :: st, w) Q ↔ cf_wp T_S_keepVerdict (58, [l0, l1, l2], .inr 3 :: st, w) Q := cf_w1 rfl
theorem r_S_keepVerdict_58 {l0 l2 : Option cf_AV} {x : Int32} {st : List cf_AV} {w : cf_Wd} {Q : cf_Rs → Prop} : cf_wp T_S_keepVerdict (58, [l0, some (.inl x), l2], st, w) Q ↔ cf_wp T_S_keepVerdict (59, [l0, some (.inl x), l2], .inl x :: st, w) Q := cf_w1 rfl
theorem r_S_keepVerdict_59 {l0 l1 l2 : Option cf_AV} {i : Int32} {st : List cf_AV} {w : cf_Wd} {Q : cf_Rs → Prop} : cf_wp T_S_keepVerdict (59, [l0, l1, l2], .inl i :: .inr 3 :: st, w) Q ↔ (cf_in i 14 = true ∧ cf_wp T_S_keepVerdict (60, [l0, l1, l2], .inl (w 3 i.toNatClampNeg) :: st, w) Q) := cf_wg rfl
theorem r_S_keepVerdict_60 {l0 l1 l2 : Option cf_AV} {x y : Int32} {st : List cf_AV} {w : cf_Wd} {Q : cf_Rs → Prop} : cf_wp T_S_keepVerdict (60, [l0, l1, l2], .inl y :: .inl x :: st, w) Q ↔ cf_wp T_S_keepVerdict (61, [l0, l1, l2], .inl (x ||| y) :: st, w) Q := cf_w1 rfl
theorem r_S_keepVerdict_61 {l0 l1 l2 : Option cf_AV} {x : Int32} {st : List cf_AV} {w : cf_Wd} {Q : cf_Rs → Prop} : cf_wp T_S_keepVerdict (61, [l0, l1, l2], .inl x :: .inr 10 :: st, w) Q ↔ cf_wp T_S_keepVerdict (64, [l0, l1, l2], st, (cf_wa w 10 (upd (w 10) 11 x))) Q := cf_w1 rfl
theorem r_S_keepVerdict_64 {l0 l1 l2 : Option cf_AV} {w : cf_Wd} {P : cf_Wd → Prop} : cf_wp T_S_keepVerdict (64, [l0, l1, l2], [], w) (cf_qv P) ↔ P w := Iff.trans (cf_wr (q := (none, w)) rfl) Iff.rfl
theorem e_S_keepVerdict {a1 a2 : Int32} {w : cf_Wd} {P : cf_Wd → Prop} (h : cf_wp T_S_keepVerdict (0, [some (.inr 10), some (.inl a1), some (.inl a2)], [], w) (cf_qv P)) : ∃ w1, F_S_keepVerdict [.inr 10, .inl a1, .inl a2] w = some (none, w1) ∧ P w1 := cf_ev rfl (Nat.le_of_ble_eq_true rfl) h
noncomputable def T_S_finishTest (pc : Nat) : cf_Rw := bif Nat.ble pc 30 then
 (bif Nat.ble pc 14 then
  (bif Nat.ble pc 7 then
   (bif Nat.ble pc 1 then
    (bif Nat.ble pc 0 then
     (bif Nat.beq pc 0 then cf_aload 0 1 else cf_stuck)
     else
     (bif Nat.beq pc 1 then cf_get 3 15 4 else cf_stuck))
    else
    (bif Nat.ble pc 4 then
     (bif Nat.beq pc 4 then cf_ifne 9 7 else cf_stuck)
     else
     (bif Nat.beq pc 7 then cf_const 0 8 else cf_stuck)))
   else
   (bif Nat.ble pc 9 then
    (bif Nat.ble pc 8 then
     (bif Nat.beq pc 8 then cf_iret else cf_stuck)
     else
     (bif Nat.beq pc 9 then cf_aload 0 10 else cf_stuck))
    else
    (bif Nat.ble pc 10 then
     (bif Nat.beq pc 10 then cf_const 0 11 else cf_stuck)
     else
     (bif Nat.ble pc 11 then
      (bif Nat.beq pc 11 then cf_putz 3 15 14 else cf_stuck)
      else
      (bif Nat.beq pc 14 then cf_aload 0 15 else cf_stuck)))))
  else
  (bif Nat.ble pc 20 then
   (bif Nat.ble pc 18 then
    (bif Nat.ble pc 15 then
     (bif Nat.beq pc 15 then cf_call 1 F_S_judgeUpcoming 18 else cf_stuck)
     else
     (bif Nat.beq pc 18 then cf_istore 1 19 else cf_stuck))
    else
    (bif Nat.ble pc 19 then
     (bif Nat.beq pc 19 then cf_aload 0 20 else cf_stuck)
     else
     (bif Nat.beq pc 20 then cf_get 3 3 23 else cf_stuck)))
   else
   (bif Nat.ble pc 24 then
    (bif Nat.ble pc 23 then
     (bif Nat.beq pc 23 then cf_aload 0 24 else cf_stuck)
     else
     (bif Nat.beq pc 24 then cf_get 3 5 27 else cf_stuck))
    else
    (bif Nat.ble pc 27 then
     (bif Nat.beq pc 27 then cf_const 10 29 else cf_stuck)
     else
     (bif Nat.ble pc 29 then
      (bif Nat.beq pc 29 then cf_aload 0 30 else cf_stuck)
      else
      (bif Nat.beq pc 30 then cf_get 3 14 33 else cf_stuck))))))
 else
 (bif Nat.ble pc 43 then
  (bif Nat.ble pc 36 then
   (bif Nat.ble pc 34 then
    (bif Nat.ble pc 33 then
     (bif Nat.beq pc 33 then cf_bin (fun x y => x * y) 34 else cf_stuck)
     else
     (bif Nat.beq pc 34 then cf_iload 1 35 else cf_stuck))
    else
    (bif Nat.ble pc 35 then
     (bif Nat.beq pc 35 then cf_bin (fun x y => x + y) 36 else cf_stuck)
     else
     (bif Nat.beq pc 36 then cf_iast 37 else cf_stuck)))
   else
   (bif Nat.ble pc 38 then
    (bif Nat.ble pc 37 then
     (bif Nat.beq pc 37 then cf_aload 0 38 else cf_stuck)
     else
     (bif Nat.beq pc 38 then cf_dup 39 else cf_stuck))
    else
    (bif Nat.ble pc 39 then
     (bif Nat.beq pc 39 then cf_get 3 5 42 else cf_stuck)
     else
     (bif Nat.ble pc 42 then
      (bif Nat.beq pc 42 then cf_const 1 43 else cf_stuck)
      else
      (bif Nat.beq pc 43 then cf_bin (fun x y => x + y) 44 else cf_stuck)))))
  else
  (bif Nat.ble pc 52 then
   (bif Nat.ble pc 47 then
    (bif Nat.ble pc 44 then
     (bif Nat.beq pc 44 then cf_put 3 5 47 else cf_stuck)
     else
     (bif Nat.beq pc 47 then cf_aload 0 48 else cf_stuck))
    else
    (bif Nat.ble pc 48 then
     (bif Nat.beq pc 48 then cf_aload 0 49 else cf_stuck)
     else
     (bif Nat.ble pc 49 then
      (bif Nat.beq pc 49 then cf_get 3 14 52 else cf_stuck)
      else
      (bif Nat.beq pc 52 then cf_iload 1 53 else cf_stuck))))
   else
   (bif Nat.ble pc 56 then
    (bif Nat.ble pc 53 then
     (bif Nat.beq pc 53 then cf_call 3 F_S_keepVerdict 56 else cf_stuck)
     else
     (bif Nat.beq pc 56 then cf_aload 0 57 else cf_stuck))
    else
    (bif Nat.ble pc 57 then
     (bif Nat.beq pc 57 then cf_call 1 F_S_plan 60 else cf_stuck)
     else
     (bif Nat.ble pc 60 then
      (bif Nat.beq pc 60 then cf_iload 1 61 else cf_stuck)
      else
      (bif Nat.beq pc 61 then cf_iret else cf_stuck))))))
noncomputable def F_S_finishTest : List cf_AV → cf_Wd → Option cf_Rs := cf_F T_S_finishTest 2 (some .int) (cf_shV 10 0)
theorem r_S_finishTest_0 {l1 : Option cf_AV} {k : Nat} {st : List cf_AV} {w : cf_Wd} {Q : cf_Rs → Prop} : cf_wp T_S_finishTest (0, [some (.inr k), l1], st, w) Q ↔ cf_wp T_S_finishTest (1, [some (.inr k), l1], .inr k :: st, w) Q := cf_w1 rfl
theorem r_S_finishTest_1 {l0 l1 : Option cf_AV} {st : List cf_AV} {w : cf_Wd} {Q : cf_Rs → Prop} : cf_wp T_S_finishTest (1, [l0, l1], .inr 10 :: st, w) Q ↔ cf_wp T_S_finishTest (4, [l0, l1], .inl (w 10 15) :: st, w) Q := cf_w1 rfl
theorem r_S_finishTest_4 {l0 l1 : Option cf_AV} {x : Int32} {st : List cf_AV} {w : cf_Wd} {Q : cf_Rs → Prop} : cf_wp T_S_finishTest (4, [l0, l1], .inl x :: st, w) Q ↔ (if ¬ x = 0 then cf_wp T_S_finishTest (9, [l0, l1], st, w) Q else cf_wp T_S_finishTest (7, [l0, l1], st, w) Q) := cf_wi rfl
theorem r_S_finishTest_7 {l0 l1 : Option cf_AV} {st : List cf_AV} {w : cf_Wd} {Q : cf_Rs → Prop} : cf_wp T_S_finishTest (7, [l0, l1], st, w) Q ↔ cf_wp T_S_finishTest (8, [l0, l1], .inl 0 :: st, w) Q := cf_w1 rfl
theorem r_S_finishTest_8 {l0 l1 : Option cf_AV} {x : Int32} {w : cf_Wd} {P : Int32 → cf_Wd → Prop} : cf_wp T_S_finishTest (8, [l0, l1], [.inl x], w) (cf_qi P) ↔ P x w := Iff.trans (cf_wr (q := (some (.inl x), w)) rfl) Iff.rfl
theorem r_S_finishTest_9 {l1 : Option cf_AV} {k : Nat} {st : List cf_AV} {w : cf_Wd} {Q : cf_Rs → Prop} : cf_wp T_S_finishTest (9, [some (.inr k), l1], st, w) Q ↔ cf_wp T_S_finishTest (10, [some (.inr k), l1], .inr k :: st, w) Q := cf_w1 rfl
theorem r_S_finishTest_10 {l0 l1 : Option cf_AV} {st : List cf_AV} {w : cf_Wd} {Q : cf_Rs → Prop} : cf_wp T_S_finishTest (10, [l0, l1], st, w) Q ↔ cf_wp T_S_finishTest (11, [l0, l1], .inl 0 :: st, w) Q := cf_w1 rfl
theorem r_S_finishTest_11 {l0 l1 : Option cf_AV} {x : Int32} {st : List cf_AV} {w : cf_Wd} {Q : cf_Rs → Prop} : cf_wp T_S_finishTest (11, [l0, l1], .inl x :: .inr 10 :: st, w) Q ↔ ((x == 0 || x == 1) = true ∧ cf_wp T_S_finishTest (14, [l0, l1], st, (cf_wa w 10 (upd (w 10) 15 x))) Q) := cf_wg rfl
theorem r_S_finishTest_14 {l1 : Option cf_AV} {k : Nat} {st : List cf_AV} {w : cf_Wd} {Q : cf_Rs → Prop} : cf_wp T_S_finishTest (14, [some (.inr k), l1], st, w) Q ↔ cf_wp T_S_finishTest (15, [some (.inr k), l1], .inr k :: st, w) Q := cf_w1 rfl
theorem r_S_finishTest_15 {l0 l1 : Option cf_AV} {w : cf_Wd} {Q : cf_Rs → Prop} : cf_wp T_S_finishTest (15, [l0, l1], [.inr 10], w) Q ↔ ∃ x w1, F_S_judgeUpcoming [.inr 10] w = some (some (.inl x), w1) ∧ cf_wp T_S_finishTest (18, [l0, l1], [.inl x], w1) Q := cf_wci (n := 1) (F := F_S_judgeUpcoming) (nx := 18) rfl rfl cf_F_i
theorem c_S_finishTest_15 {l0 l1 : Option cf_AV} {x1 : Int32} {w1 : cf_Wd} {w : cf_Wd} {Q : cf_Rs → Prop} (hs : F_S_judgeUpcoming [.inr 10] w = some (some (.inl x1), w1)) : cf_wp T_S_finishTest (15, [l0, l1], [.inr 10], w) Q ↔ cf_wp T_S_finishTest (18, [l0, l1], [.inl x1], w1) Q := r_S_finishTest_15.trans (cf_xi hs)
theorem r_S_finishTest_18 {l0 l1 : Option cf_AV} {x : Int32} {st : List cf_AV} {w : cf_Wd} {Q : cf_Rs → Prop} : cf_wp T_S_finishTest (18, [l0, l1], .inl x :: st, w) Q ↔ cf_wp T_S_finishTest (19, [l0, some (.inl x)], st, w) Q := cf_w1 rfl
theorem r_S_finishTest_19 {l1 : Option cf_AV} {k : Nat} {st : List cf_AV} {w : cf_Wd} {Q : cf_Rs → Prop} : cf_wp T_S_finishTest (19, [some (.inr k), l1], st, w) Q ↔ cf_wp T_S_finishTest (20, [some (.inr k), l1], .inr k :: st, w) Q := cf_w1 rfl
theorem r_S_finishTest_20 {l0 l1 : Option cf_AV} {st : List cf_AV} {w : cf_Wd} {Q : cf_Rs → Prop} : cf_wp T_S_finishTest (20, [l0, l1], .inr 10 :: st, w) Q ↔ cf_wp T_S_finishTest (23, [l0, l1], .inr 13 :: st, w) Q := cf_w1 rfl
theorem r_S_finishTest_23 {l1 : Option cf_AV} {k : Nat} {st : List cf_AV} {w : cf_Wd} {Q : cf_Rs → Prop} : cf_wp T_S_finishTest (23, [some (.inr k), l1], st, w) Q ↔ cf_wp T_S_finishTest (24, [some (.inr k), l1], .inr k :: st, w) Q := cf_w1 rfl
theorem r_S_finishTest_24 {l0 l1 : Option cf_AV} {st : List cf_AV} {w : cf_Wd} {Q : cf_Rs → Prop} : cf_wp T_S_finishTest (24, [l0, l1], .inr 10 :: st, w) Q ↔ cf_wp T_S_finishTest (27, [l0, l1], .inl (w 10 5) :: st, w) Q := cf_w1 rfl
theorem r_S_finishTest_27 {l0 l1 : Option cf_AV} {st : List cf_AV} {w : cf_Wd} {Q : cf_Rs → Prop} : cf_wp T_S_finishTest (27, [l0, l1], st, w) Q ↔ cf_wp T_S_finishTest (29, [l0, l1], .inl 10 :: st, w) Q := cf_w1 rfl
theorem r_S_finishTest_29 {l1 : Option cf_AV} {k : Nat} {st : List cf_AV} {w : cf_Wd} {Q : cf_Rs → Prop} : cf_wp T_S_finishTest (29, [some (.inr k), l1], st, w) Q ↔ cf_wp T_S_finishTest (30, [some (.inr k), l1], .inr k :: st, w) Q := cf_w1 rfl
theorem r_S_finishTest_30 {l0 l1 : Option cf_AV} {st : List cf_AV} {w : cf_Wd} {Q : cf_Rs → Prop} : cf_wp T_S_finishTest (30, [l0, l1], .inr 10 :: st, w) Q ↔ cf_wp T_S_finishTest (33, [l0, l1], .inl (w 10 14) :: st, w) Q := cf_w1 rfl
theorem r_S_finishTest_33 {l0 l1 : Option cf_AV} {x y : Int32} {st : List cf_AV} {w : cf_Wd} {Q : cf_Rs → Prop} : cf_wp T_S_finishTest (33, [l0, l1], .inl y :: .inl x :: st, w) Q ↔ cf_wp T_S_finishTest (34, [l0, l1], .inl (x * y) :: st, w) Q := cf_w1 rfl
theorem r_S_finishTest_34 {l0 : Option cf_AV} {x : Int32} {st : List cf_AV} {w : cf_Wd} {Q : cf_Rs → Prop} : cf_wp T_S_finishTest (34, [l0, some (.inl x)], st, w) Q ↔ cf_wp T_S_finishTest (35, [l0, some (.inl x)], .inl x :: st, w) Q := cf_w1 rfl
theorem r_S_finishTest_35 {l0 l1 : Option cf_AV} {x y : Int32} {st : List cf_AV} {w : cf_Wd} {Q : cf_Rs → Prop} : cf_wp T_S_finishTest (35, [l0, l1], .inl y :: .inl x :: st, w) Q ↔ cf_wp T_S_finishTest (36, [l0, l1], .inl (x + y) :: st, w) Q := cf_w1 rfl
theorem r_S_finishTest_36 {l0 l1 : Option cf_AV} {x i : Int32} {st : List cf_AV} {w : cf_Wd} {Q : cf_Rs → Prop} : cf_wp T_S_finishTest (36, [l0, l1], .inl x :: .inl i :: .inr 13 :: st, w) Q ↔ (cf_in i 270 = true ∧ cf_wp T_S_finishTest (37, [l0, l1], st, (cf_wa w 13 (upd (w 13) i.toNatClampNeg x))) Q) := cf_wg rfl
theorem r_S_finishTest_37 {l1 : Option cf_AV} {k : Nat} {st : List cf_AV} {w : cf_Wd} {Q : cf_Rs → Prop} : cf_wp T_S_finishTest (37, [some (.inr k), l1], st, w) Q ↔ cf_wp T_S_finishTest (38, [some (.inr k), l1], .inr k :: st, w) Q := cf_w1 rfl
theorem r_S_finishTest_38 {l0 l1 : Option cf_AV} {v : cf_AV} {st : List cf_AV} {w : cf_Wd} {Q : cf_Rs → Prop} : cf_wp T_S_finishTest (38, [l0, l1], v :: st, w) Q ↔ cf_wp T_S_finishTest (39, [l0, l1], v :: v :: st, w) Q := cf_w1 rfl
theorem r_S_finishTest_39 {l0 l1 : Option cf_AV} {st : List cf_AV} {w : cf_Wd} {Q : cf_Rs → Prop} : cf_wp T_S_finishTest (39, [l0, l1], .inr 10 :: st, w) Q ↔ cf_wp T_S_finishTest (42, [l0, l1], .inl (w 10 5) :: st, w) Q := cf_w1 rfl
theorem r_S_finishTest_42 {l0 l1 : Option cf_AV} {st : List cf_AV} {w : cf_Wd} {Q : cf_Rs → Prop} : cf_wp T_S_finishTest (42, [l0, l1], st, w) Q ↔ cf_wp T_S_finishTest (43, [l0, l1], .inl 1 :: st, w) Q := cf_w1 rfl
theorem r_S_finishTest_43 {l0 l1 : Option cf_AV} {x y : Int32} {st : List cf_AV} {w : cf_Wd} {Q : cf_Rs → Prop} : cf_wp T_S_finishTest (43, [l0, l1], .inl y :: .inl x :: st, w) Q ↔ cf_wp T_S_finishTest (44, [l0, l1], .inl (x + y) :: st, w) Q := cf_w1 rfl
theorem r_S_finishTest_44 {l0 l1 : Option cf_AV} {x : Int32} {st : List cf_AV} {w : cf_Wd} {Q : cf_Rs → Prop} : cf_wp T_S_finishTest (44, [l0, l1], .inl x :: .inr 10 :: st, w) Q ↔ cf_wp T_S_finishTest (47, [l0, l1], st, (cf_wa w 10 (upd (w 10) 5 x))) Q := cf_w1 rfl
theorem r_S_finishTest_47 {l1 : Option cf_AV} {k : Nat} {st : List cf_AV} {w : cf_Wd} {Q : cf_Rs → Prop} : cf_wp T_S_finishTest (47, [some (.inr k), l1], st, w) Q ↔ cf_wp T_S_finishTest (48, [some (.inr k), l1], .inr k :: st, w) Q := cf_w1 rfl
theorem r_S_finishTest_48 {l1 : Option cf_AV} {k : Nat} {st : List cf_AV} {w : cf_Wd} {Q : cf_Rs → Prop} : cf_wp T_S_finishTest (48, [some (.inr k), l1], st, w) Q ↔ cf_wp T_S_finishTest (49, [some (.inr k), l1], .inr k :: st, w) Q := cf_w1 rfl
theorem r_S_finishTest_49 {l0 l1 : Option cf_AV} {st : List cf_AV} {w : cf_Wd} {Q : cf_Rs → Prop} : cf_wp T_S_finishTest (49, [l0, l1], .inr 10 :: st, w) Q ↔ cf_wp T_S_finishTest (52, [l0, l1], .inl (w 10 14) :: st, w) Q := cf_w1 rfl
theorem r_S_finishTest_52 {l0 : Option cf_AV} {x : Int32} {st : List cf_AV} {w : cf_Wd} {Q : cf_Rs → Prop} : cf_wp T_S_finishTest (52, [l0, some (.inl x)], st, w) Q ↔ cf_wp T_S_finishTest (53, [l0, some (.inl x)], .inl x :: st, w) Q := cf_w1 rfl
theorem r_S_finishTest_53 {l0 l1 : Option cf_AV} {a2 a1 : Int32} {w : cf_Wd} {Q : cf_Rs → Prop} : cf_wp T_S_finishTest (53, [l0, l1], [.inl a2, .inl a1, .inr 10], w) Q ↔ ∃ w1, F_S_keepVerdict [.inr 10, .inl a1, .inl a2] w = some (none, w1) ∧ cf_wp T_S_finishTest (56, [l0, l1], [], w1) Q := cf_wcv (n := 3) (F := F_S_keepVerdict) (nx := 56) rfl rfl cf_F_v
theorem c_S_finishTest_53 {l0 l1 : Option cf_AV} {a2 a1 : Int32} {w1 : cf_Wd} {w : cf_Wd} {Q : cf_Rs → Prop} (hs : F_S_keepVerdict [.inr 10, .inl a1, .inl a2] w = some (none, w1)) : cf_wp T_S_finishTest (53, [l0, l1], [.inl a2, .inl a1, .inr 10], w) Q ↔ cf_wp T_S_finishTest (56, [l0, l1], [], w1) Q := r_S_finishTest_53.trans (cf_xv hs)
theorem r_S_finishTest_56 {l1 : Option cf_AV} {k : Nat} {st : List cf_AV} {w : cf_Wd} {Q : cf_Rs → Prop} : cf_wp T_S_finishTest (56, [some (.inr k), l1], st, w) Q ↔ cf_wp T_S_finishTest (57, [some (.inr k), l1], .inr k :: st, w) Q := cf_w1 rfl
theorem r_S_finishTest_57 {l0 l1 : Option cf_AV} {w : cf_Wd} {Q : cf_Rs → Prop} : cf_wp T_S_finishTest (57, [l0, l1], [.inr 10], w) Q ↔ ∃ w1, F_S_plan [.inr 10] w = some (none, w1) ∧ cf_wp T_S_finishTest (60, [l0, l1], [], w1) Q := cf_wcv (n := 1) (F := F_S_plan) (nx := 60) rfl rfl cf_F_v
theorem c_S_finishTest_57 {l0 l1 : Option cf_AV} {w1 : cf_Wd} {w : cf_Wd} {Q : cf_Rs → Prop} (hs : F_S_plan [.inr 10] w = some (none, w1)) : cf_wp T_S_finishTest (57, [l0, l1], [.inr 10], w) Q ↔ cf_wp T_S_finishTest (60, [l0, l1], [], w1) Q := r_S_finishTest_57.trans (cf_xv hs)
theorem r_S_finishTest_60 {l0 : Option cf_AV} {x : Int32} {st : List cf_AV} {w : cf_Wd} {Q : cf_Rs → Prop} : cf_wp T_S_finishTest (60, [l0, some (.inl x)], st, w) Q ↔ cf_wp T_S_finishTest (61, [l0, some (.inl x)], .inl x :: st, w) Q := cf_w1 rfl
theorem r_S_finishTest_61 {l0 l1 : Option cf_AV} {x : Int32} {w : cf_Wd} {P : Int32 → cf_Wd → Prop} : cf_wp T_S_finishTest (61, [l0, l1], [.inl x], w) (cf_qi P) ↔ P x w := Iff.trans (cf_wr (q := (some (.inl x), w)) rfl) Iff.rfl
theorem e_S_finishTest {w : cf_Wd} {P : Int32 → cf_Wd → Prop} (h : cf_wp T_S_finishTest (0, [some (.inr 10), none], [], w) (cf_qi P)) : ∃ x w1, F_S_finishTest [.inr 10] w = some (some (.inl x), w1) ∧ P x w1 := cf_ei rfl (Nat.le_of_ble_eq_true rfl) h
noncomputable def T_C_finish (pc : Nat) : cf_Rw := bif Nat.ble pc 1 then
 (bif Nat.ble pc 0 then
  (bif Nat.beq pc 0 then cf_aload 0 1 else cf_stuck)
  else
  (bif Nat.beq pc 1 then cf_get 4 2 4 else cf_stuck))
 else
 (bif Nat.ble pc 4 then
  (bif Nat.beq pc 4 then cf_call 1 F_S_finishTest 7 else cf_stuck)
  else
  (bif Nat.beq pc 7 then cf_iret else cf_stuck))
noncomputable def F_C_finish : List cf_AV → cf_Wd → Option cf_Rs := cf_F T_C_finish 1 (some .int) (cf_shV 0 0)
theorem r_C_finish_0 {k : Nat} {st : List cf_AV} {w : cf_Wd} {Q : cf_Rs → Prop} : cf_wp T_C_finish (0, [some (.inr k)], st, w) Q ↔ cf_wp T_C_finish (1, [some (.inr k)], .inr k :: st, w) Q := cf_w1 rfl
theorem r_C_finish_1 {l0 : Option cf_AV} {st : List cf_AV} {w : cf_Wd} {Q : cf_Rs → Prop} : cf_wp T_C_finish (1, [l0], .inr 0 :: st, w) Q ↔ cf_wp T_C_finish (4, [l0], .inr 10 :: st, w) Q := cf_w1 rfl
theorem r_C_finish_4 {l0 : Option cf_AV} {w : cf_Wd} {Q : cf_Rs → Prop} : cf_wp T_C_finish (4, [l0], [.inr 10], w) Q ↔ ∃ x w1, F_S_finishTest [.inr 10] w = some (some (.inl x), w1) ∧ cf_wp T_C_finish (7, [l0], [.inl x], w1) Q := cf_wci (n := 1) (F := F_S_finishTest) (nx := 7) rfl rfl cf_F_i
theorem c_C_finish_4 {l0 : Option cf_AV} {x1 : Int32} {w1 : cf_Wd} {w : cf_Wd} {Q : cf_Rs → Prop} (hs : F_S_finishTest [.inr 10] w = some (some (.inl x1), w1)) : cf_wp T_C_finish (4, [l0], [.inr 10], w) Q ↔ cf_wp T_C_finish (7, [l0], [.inl x1], w1) Q := r_C_finish_4.trans (cf_xi hs)
theorem r_C_finish_7 {l0 : Option cf_AV} {x : Int32} {w : cf_Wd} {P : Int32 → cf_Wd → Prop} : cf_wp T_C_finish (7, [l0], [.inl x], w) (cf_qi P) ↔ P x w := Iff.trans (cf_wr (q := (some (.inl x), w)) rfl) Iff.rfl
theorem e_C_finish {w : cf_Wd} {P : Int32 → cf_Wd → Prop} (h : cf_wp T_C_finish (0, [some (.inr 0)], [], w) (cf_qi P)) : ∃ x w1, F_C_finish [.inr 0] w = some (some (.inl x), w1) ∧ P x w1 := cf_ei rfl (Nat.le_of_ble_eq_true rfl) h
noncomputable def T_C_crash (pc : Nat) : cf_Rw := bif Nat.ble pc 8 then
 (bif Nat.ble pc 1 then
  (bif Nat.ble pc 0 then
   (bif Nat.beq pc 0 then cf_aload 0 1 else cf_stuck)
   else
   (bif Nat.beq pc 1 then cf_get 4 2 4 else cf_stuck))
  else
  (bif Nat.ble pc 4 then
   (bif Nat.beq pc 4 then cf_call 1 F_S_loseTest 7 else cf_stuck)
   else
   (bif Nat.ble pc 7 then
    (bif Nat.beq pc 7 then cf_aload 0 8 else cf_stuck)
    else
    (bif Nat.beq pc 8 then cf_get 4 2 11 else cf_stuck))))
 else
 (bif Nat.ble pc 17 then
  (bif Nat.ble pc 11 then
   (bif Nat.beq pc 11 then cf_get 3 6 14 else cf_stuck)
   else
   (bif Nat.ble pc 14 then
    (bif Nat.beq pc 14 then cf_ifeq 21 17 else cf_stuck)
    else
    (bif Nat.beq pc 17 then cf_const 1 18 else cf_stuck)))
  else
  (bif Nat.ble pc 18 then
   (bif Nat.beq pc 18 then cf_goto 22 else cf_stuck)
   else
   (bif Nat.ble pc 21 then
    (bif Nat.beq pc 21 then cf_const 0 22 else cf_stuck)
    else
    (bif Nat.beq pc 22 then cf_iret else cf_stuck))))
noncomputable def F_C_crash : List cf_AV → cf_Wd → Option cf_Rs := cf_F T_C_crash 1 (some .boolean) (cf_shV 0 0)
theorem r_C_crash_0 {k : Nat} {st : List cf_AV} {w : cf_Wd} {Q : cf_Rs → Prop} : cf_wp T_C_crash (0, [some (.inr k)], st, w) Q ↔ cf_wp T_C_crash (1, [some (.inr k)], .inr k :: st, w) Q := cf_w1 rfl
theorem r_C_crash_1 {l0 : Option cf_AV} {st : List cf_AV} {w : cf_Wd} {Q : cf_Rs → Prop} : cf_wp T_C_crash (1, [l0], .inr 0 :: st, w) Q ↔ cf_wp T_C_crash (4, [l0], .inr 10 :: st, w) Q := cf_w1 rfl
theorem r_C_crash_4 {l0 : Option cf_AV} {w : cf_Wd} {Q : cf_Rs → Prop} : cf_wp T_C_crash (4, [l0], [.inr 10], w) Q ↔ ∃ w1, F_S_loseTest [.inr 10] w = some (none, w1) ∧ cf_wp T_C_crash (7, [l0], [], w1) Q := cf_wcv (n := 1) (F := F_S_loseTest) (nx := 7) rfl rfl cf_F_v
theorem c_C_crash_4 {l0 : Option cf_AV} {w1 : cf_Wd} {w : cf_Wd} {Q : cf_Rs → Prop} (hs : F_S_loseTest [.inr 10] w = some (none, w1)) : cf_wp T_C_crash (4, [l0], [.inr 10], w) Q ↔ cf_wp T_C_crash (7, [l0], [], w1) Q := r_C_crash_4.trans (cf_xv hs)
theorem r_C_crash_7 {k : Nat} {st : List cf_AV} {w : cf_Wd} {Q : cf_Rs → Prop} : cf_wp T_C_crash (7, [some (.inr k)], st, w) Q ↔ cf_wp T_C_crash (8, [some (.inr k)], .inr k :: st, w) Q := cf_w1 rfl
theorem r_C_crash_8 {l0 : Option cf_AV} {st : List cf_AV} {w : cf_Wd} {Q : cf_Rs → Prop} : cf_wp T_C_crash (8, [l0], .inr 0 :: st, w) Q ↔ cf_wp T_C_crash (11, [l0], .inr 10 :: st, w) Q := cf_w1 rfl
theorem r_C_crash_11 {l0 : Option cf_AV} {st : List cf_AV} {w : cf_Wd} {Q : cf_Rs → Prop} : cf_wp T_C_crash (11, [l0], .inr 10 :: st, w) Q ↔ cf_wp T_C_crash (14, [l0], .inl (w 10 6) :: st, w) Q := cf_w1 rfl
theorem r_C_crash_14 {l0 : Option cf_AV} {x : Int32} {st : List cf_AV} {w : cf_Wd} {Q : cf_Rs → Prop} : cf_wp T_C_crash (14, [l0], .inl x :: st, w) Q ↔ (if x = 0 then cf_wp T_C_crash (21, [l0], st, w) Q else cf_wp T_C_crash (17, [l0], st, w) Q) := cf_wi rfl
theorem r_C_crash_17 {l0 : Option cf_AV} {st : List cf_AV} {w : cf_Wd} {Q : cf_Rs → Prop} : cf_wp T_C_crash (17, [l0], st, w) Q ↔ cf_wp T_C_crash (18, [l0], .inl 1 :: st, w) Q := cf_w1 rfl
theorem r_C_crash_18 {l0 : Option cf_AV} {st : List cf_AV} {w : cf_Wd} {Q : cf_Rs → Prop} : cf_wp T_C_crash (18, [l0], st, w) Q ↔ cf_wp T_C_crash (22, [l0], st, w) Q := cf_w1 rfl
theorem r_C_crash_21 {l0 : Option cf_AV} {st : List cf_AV} {w : cf_Wd} {Q : cf_Rs → Prop} : cf_wp T_C_crash (21, [l0], st, w) Q ↔ cf_wp T_C_crash (22, [l0], .inl 0 :: st, w) Q := cf_w1 rfl
theorem r_C_crash_22 {l0 : Option cf_AV} {x : Int32} {w : cf_Wd} {P : Int32 → cf_Wd → Prop} : cf_wp T_C_crash (22, [l0], [.inl x], w) (cf_qb P) ↔ ((x = 0 ∨ x = 1) ∧ P x w) := Iff.trans (cf_wr (q := (some (.inl x), w)) rfl) Iff.rfl
theorem e_C_crash {w : cf_Wd} {P : Int32 → cf_Wd → Prop} (h : cf_wp T_C_crash (0, [some (.inr 0)], [], w) (cf_qb P)) : ∃ x w1, F_C_crash [.inr 0] w = some (some (.inl x), w1) ∧ P x w1 := cf_eb rfl (Nat.le_of_ble_eq_true rfl) h
noncomputable def T_C_journal (pc : Nat) : cf_Rw := bif Nat.ble pc 1 then
 (bif Nat.ble pc 0 then
  (bif Nat.beq pc 0 then cf_aload 0 1 else cf_stuck)
  else
  (bif Nat.beq pc 1 then cf_get 4 2 4 else cf_stuck))
 else
 (bif Nat.ble pc 4 then
  (bif Nat.beq pc 4 then cf_get 3 5 7 else cf_stuck)
  else
  (bif Nat.beq pc 7 then cf_iret else cf_stuck))
noncomputable def F_C_journal : List cf_AV → cf_Wd → Option cf_Rs := cf_F T_C_journal 1 (some .int) (cf_shV 0 0)
theorem r_C_journal_0 {k : Nat} {st : List cf_AV} {w : cf_Wd} {Q : cf_Rs → Prop} : cf_wp T_C_journal (0, [some (.inr k)], st, w) Q ↔ cf_wp T_C_journal (1, [some (.inr k)], .inr k :: st, w) Q := cf_w1 rfl
theorem r_C_journal_1 {l0 : Option cf_AV} {st : List cf_AV} {w : cf_Wd} {Q : cf_Rs → Prop} : cf_wp T_C_journal (1, [l0], .inr 0 :: st, w) Q ↔ cf_wp T_C_journal (4, [l0], .inr 10 :: st, w) Q := cf_w1 rfl
theorem r_C_journal_4 {l0 : Option cf_AV} {st : List cf_AV} {w : cf_Wd} {Q : cf_Rs → Prop} : cf_wp T_C_journal (4, [l0], .inr 10 :: st, w) Q ↔ cf_wp T_C_journal (7, [l0], .inl (w 10 5) :: st, w) Q := cf_w1 rfl
theorem r_C_journal_7 {l0 : Option cf_AV} {x : Int32} {w : cf_Wd} {P : Int32 → cf_Wd → Prop} : cf_wp T_C_journal (7, [l0], [.inl x], w) (cf_qi P) ↔ P x w := Iff.trans (cf_wr (q := (some (.inl x), w)) rfl) Iff.rfl
theorem e_C_journal {w : cf_Wd} {P : Int32 → cf_Wd → Prop} (h : cf_wp T_C_journal (0, [some (.inr 0)], [], w) (cf_qi P)) : ∃ x w1, F_C_journal [.inr 0] w = some (some (.inl x), w1) ∧ P x w1 := cf_ei rfl (Nat.le_of_ble_eq_true rfl) h
noncomputable def T_C_entry (pc : Nat) : cf_Rw := bif Nat.ble pc 12 then
 (bif Nat.ble pc 4 then
  (bif Nat.ble pc 0 then
   (bif Nat.beq pc 0 then cf_iload 1 1 else cf_stuck)
   else
   (bif Nat.ble pc 1 then
    (bif Nat.beq pc 1 then cf_iflt 27 4 else cf_stuck)
    else
    (bif Nat.beq pc 4 then cf_iload 1 5 else cf_stuck)))
  else
  (bif Nat.ble pc 6 then
   (bif Nat.ble pc 5 then
    (bif Nat.beq pc 5 then cf_aload 0 6 else cf_stuck)
    else
    (bif Nat.beq pc 6 then cf_get 4 2 9 else cf_stuck))
   else
   (bif Nat.ble pc 9 then
    (bif Nat.beq pc 9 then cf_get 3 5 12 else cf_stuck)
    else
    (bif Nat.beq pc 12 then cf_icge 27 15 else cf_stuck))))
 else
 (bif Nat.ble pc 22 then
  (bif Nat.ble pc 16 then
   (bif Nat.ble pc 15 then
    (bif Nat.beq pc 15 then cf_aload 0 16 else cf_stuck)
    else
    (bif Nat.beq pc 16 then cf_get 4 2 19 else cf_stuck))
   else
   (bif Nat.ble pc 19 then
    (bif Nat.beq pc 19 then cf_get 3 3 22 else cf_stuck)
    else
    (bif Nat.beq pc 22 then cf_iload 1 23 else cf_stuck)))
  else
  (bif Nat.ble pc 24 then
   (bif Nat.ble pc 23 then
    (bif Nat.beq pc 23 then cf_iald 24 else cf_stuck)
    else
    (bif Nat.beq pc 24 then cf_goto 28 else cf_stuck))
   else
   (bif Nat.ble pc 27 then
    (bif Nat.beq pc 27 then cf_const (-1) 28 else cf_stuck)
    else
    (bif Nat.beq pc 28 then cf_iret else cf_stuck))))
noncomputable def F_C_entry : List cf_AV → cf_Wd → Option cf_Rs := cf_F T_C_entry 2 (some .int) (cf_shV 0 1)
theorem r_C_entry_0 {l0 : Option cf_AV} {x : Int32} {st : List cf_AV} {w : cf_Wd} {Q : cf_Rs → Prop} : cf_wp T_C_entry (0, [l0, some (.inl x)], st, w) Q ↔ cf_wp T_C_entry (1, [l0, some (.inl x)], .inl x :: st, w) Q := cf_w1 rfl
theorem r_C_entry_1 {l0 l1 : Option cf_AV} {x : Int32} {st : List cf_AV} {w : cf_Wd} {Q : cf_Rs → Prop} : cf_wp T_C_entry (1, [l0, l1], .inl x :: st, w) Q ↔ (if x < 0 then cf_wp T_C_entry (27, [l0, l1], st, w) Q else cf_wp T_C_entry (4, [l0, l1], st, w) Q) := cf_wi rfl
theorem r_C_entry_4 {l0 : Option cf_AV} {x : Int32} {st : List cf_AV} {w : cf_Wd} {Q : cf_Rs → Prop} : cf_wp T_C_entry (4, [l0, some (.inl x)], st, w) Q ↔ cf_wp T_C_entry (5, [l0, some (.inl x)], .inl x :: st, w) Q := cf_w1 rfl
theorem r_C_entry_5 {l1 : Option cf_AV} {k : Nat} {st : List cf_AV} {w : cf_Wd} {Q : cf_Rs → Prop} : cf_wp T_C_entry (5, [some (.inr k), l1], st, w) Q ↔ cf_wp T_C_entry (6, [some (.inr k), l1], .inr k :: st, w) Q := cf_w1 rfl
theorem r_C_entry_6 {l0 l1 : Option cf_AV} {st : List cf_AV} {w : cf_Wd} {Q : cf_Rs → Prop} : cf_wp T_C_entry (6, [l0, l1], .inr 0 :: st, w) Q ↔ cf_wp T_C_entry (9, [l0, l1], .inr 10 :: st, w) Q := cf_w1 rfl
theorem r_C_entry_9 {l0 l1 : Option cf_AV} {st : List cf_AV} {w : cf_Wd} {Q : cf_Rs → Prop} : cf_wp T_C_entry (9, [l0, l1], .inr 10 :: st, w) Q ↔ cf_wp T_C_entry (12, [l0, l1], .inl (w 10 5) :: st, w) Q := cf_w1 rfl
theorem r_C_entry_12 {l0 l1 : Option cf_AV} {x y : Int32} {st : List cf_AV} {w : cf_Wd} {Q : cf_Rs → Prop} : cf_wp T_C_entry (12, [l0, l1], .inl y :: .inl x :: st, w) Q ↔ (if y ≤ x then cf_wp T_C_entry (27, [l0, l1], st, w) Q else cf_wp T_C_entry (15, [l0, l1], st, w) Q) := cf_wi rfl
theorem r_C_entry_15 {l1 : Option cf_AV} {k : Nat} {st : List cf_AV} {w : cf_Wd} {Q : cf_Rs → Prop} : cf_wp T_C_entry (15, [some (.inr k), l1], st, w) Q ↔ cf_wp T_C_entry (16, [some (.inr k), l1], .inr k :: st, w) Q := cf_w1 rfl
theorem r_C_entry_16 {l0 l1 : Option cf_AV} {st : List cf_AV} {w : cf_Wd} {Q : cf_Rs → Prop} : cf_wp T_C_entry (16, [l0, l1], .inr 0 :: st, w) Q ↔ cf_wp T_C_entry (19, [l0, l1], .inr 10 :: st, w) Q := cf_w1 rfl
theorem r_C_entry_19 {l0 l1 : Option cf_AV} {st : List cf_AV} {w : cf_Wd} {Q : cf_Rs → Prop} : cf_wp T_C_entry (19, [l0, l1], .inr 10 :: st, w) Q ↔ cf_wp T_C_entry (22, [l0, l1], .inr 13 :: st, w) Q := cf_w1 rfl
theorem r_C_entry_22 {l0 : Option cf_AV} {x : Int32} {st : List cf_AV} {w : cf_Wd} {Q : cf_Rs → Prop} : cf_wp T_C_entry (22, [l0, some (.inl x)], st, w) Q ↔ cf_wp T_C_entry (23, [l0, some (.inl x)], .inl x :: st, w) Q := cf_w1 rfl
theorem r_C_entry_23 {l0 l1 : Option cf_AV} {i : Int32} {st : List cf_AV} {w : cf_Wd} {Q : cf_Rs → Prop} : cf_wp T_C_entry (23, [l0, l1], .inl i :: .inr 13 :: st, w) Q ↔ (cf_in i 270 = true ∧ cf_wp T_C_entry (24, [l0, l1], .inl (w 13 i.toNatClampNeg) :: st, w) Q) := cf_wg rfl
theorem r_C_entry_24 {l0 l1 : Option cf_AV} {st : List cf_AV} {w : cf_Wd} {Q : cf_Rs → Prop} : cf_wp T_C_entry (24, [l0, l1], st, w) Q ↔ cf_wp T_C_entry (28, [l0, l1], st, w) Q := cf_w1 rfl
theorem r_C_entry_27 {l0 l1 : Option cf_AV} {st : List cf_AV} {w : cf_Wd} {Q : cf_Rs → Prop} : cf_wp T_C_entry (27, [l0, l1], st, w) Q ↔ cf_wp T_C_entry (28, [l0, l1], .inl (-1) :: st, w) Q := cf_w1 rfl
theorem r_C_entry_28 {l0 l1 : Option cf_AV} {x : Int32} {w : cf_Wd} {P : Int32 → cf_Wd → Prop} : cf_wp T_C_entry (28, [l0, l1], [.inl x], w) (cf_qi P) ↔ P x w := Iff.trans (cf_wr (q := (some (.inl x), w)) rfl) Iff.rfl
theorem e_C_entry {a1 : Int32} {w : cf_Wd} {P : Int32 → cf_Wd → Prop} (h : cf_wp T_C_entry (0, [some (.inr 0), some (.inl a1)], [], w) (cf_qi P)) : ∃ x w1, F_C_entry [.inr 0, .inl a1] w = some (some (.inl x), w1) ∧ P x w1 := cf_ei rfl (Nat.le_of_ble_eq_true rfl) h
noncomputable def T_C_state (pc : Nat) : cf_Rw := bif Nat.ble pc 1 then
 (bif Nat.ble pc 0 then
  (bif Nat.beq pc 0 then cf_aload 0 1 else cf_stuck)
  else
  (bif Nat.beq pc 1 then cf_get 4 2 4 else cf_stuck))
 else
 (bif Nat.ble pc 4 then
  (bif Nat.beq pc 4 then cf_get 3 6 7 else cf_stuck)
  else
  (bif Nat.beq pc 7 then cf_iret else cf_stuck))
noncomputable def F_C_state : List cf_AV → cf_Wd → Option cf_Rs := cf_F T_C_state 1 (some .int) (cf_shV 0 0)
theorem r_C_state_0 {k : Nat} {st : List cf_AV} {w : cf_Wd} {Q : cf_Rs → Prop} : cf_wp T_C_state (0, [some (.inr k)], st, w) Q ↔ cf_wp T_C_state (1, [some (.inr k)], .inr k :: st, w) Q := cf_w1 rfl
theorem r_C_state_1 {l0 : Option cf_AV} {st : List cf_AV} {w : cf_Wd} {Q : cf_Rs → Prop} : cf_wp T_C_state (1, [l0], .inr 0 :: st, w) Q ↔ cf_wp T_C_state (4, [l0], .inr 10 :: st, w) Q := cf_w1 rfl
theorem r_C_state_4 {l0 : Option cf_AV} {st : List cf_AV} {w : cf_Wd} {Q : cf_Rs → Prop} : cf_wp T_C_state (4, [l0], .inr 10 :: st, w) Q ↔ cf_wp T_C_state (7, [l0], .inl (w 10 6) :: st, w) Q := cf_w1 rfl
theorem r_C_state_7 {l0 : Option cf_AV} {x : Int32} {w : cf_Wd} {P : Int32 → cf_Wd → Prop} : cf_wp T_C_state (7, [l0], [.inl x], w) (cf_qi P) ↔ P x w := Iff.trans (cf_wr (q := (some (.inl x), w)) rfl) Iff.rfl
theorem e_C_state {w : cf_Wd} {P : Int32 → cf_Wd → Prop} (h : cf_wp T_C_state (0, [some (.inr 0)], [], w) (cf_qi P)) : ∃ x w1, F_C_state [.inr 0] w = some (some (.inl x), w1) ∧ P x w1 := cf_ei rfl (Nat.le_of_ble_eq_true rfl) h
noncomputable def T_C_suspects (pc : Nat) : cf_Rw := bif Nat.ble pc 1 then
 (bif Nat.ble pc 0 then
  (bif Nat.beq pc 0 then cf_aload 0 1 else cf_stuck)
  else
  (bif Nat.beq pc 1 then cf_get 4 2 4 else cf_stuck))
 else
 (bif Nat.ble pc 4 then
  (bif Nat.beq pc 4 then cf_get 3 12 7 else cf_stuck)
  else
  (bif Nat.beq pc 7 then cf_iret else cf_stuck))
noncomputable def F_C_suspects : List cf_AV → cf_Wd → Option cf_Rs := cf_F T_C_suspects 1 (some .int) (cf_shV 0 0)
theorem r_C_suspects_0 {k : Nat} {st : List cf_AV} {w : cf_Wd} {Q : cf_Rs → Prop} : cf_wp T_C_suspects (0, [some (.inr k)], st, w) Q ↔ cf_wp T_C_suspects (1, [some (.inr k)], .inr k :: st, w) Q := cf_w1 rfl
theorem r_C_suspects_1 {l0 : Option cf_AV} {st : List cf_AV} {w : cf_Wd} {Q : cf_Rs → Prop} : cf_wp T_C_suspects (1, [l0], .inr 0 :: st, w) Q ↔ cf_wp T_C_suspects (4, [l0], .inr 10 :: st, w) Q := cf_w1 rfl
theorem r_C_suspects_4 {l0 : Option cf_AV} {st : List cf_AV} {w : cf_Wd} {Q : cf_Rs → Prop} : cf_wp T_C_suspects (4, [l0], .inr 10 :: st, w) Q ↔ cf_wp T_C_suspects (7, [l0], .inl (w 10 12) :: st, w) Q := cf_w1 rfl
theorem r_C_suspects_7 {l0 : Option cf_AV} {x : Int32} {w : cf_Wd} {P : Int32 → cf_Wd → Prop} : cf_wp T_C_suspects (7, [l0], [.inl x], w) (cf_qi P) ↔ P x w := Iff.trans (cf_wr (q := (some (.inl x), w)) rfl) Iff.rfl
theorem e_C_suspects {w : cf_Wd} {P : Int32 → cf_Wd → Prop} (h : cf_wp T_C_suspects (0, [some (.inr 0)], [], w) (cf_qi P)) : ∃ x w1, F_C_suspects [.inr 0] w = some (some (.inl x), w1) ∧ P x w1 := cf_ei rfl (Nat.le_of_ble_eq_true rfl) h
noncomputable def T_C_weight (pc : Nat) : cf_Rw := bif Nat.ble pc 11 then
 (bif Nat.ble pc 4 then
  (bif Nat.ble pc 0 then
   (bif Nat.beq pc 0 then cf_aload 0 1 else cf_stuck)
   else
   (bif Nat.ble pc 1 then
    (bif Nat.beq pc 1 then cf_get 4 2 4 else cf_stuck)
    else
    (bif Nat.beq pc 4 then cf_iload 1 5 else cf_stuck)))
  else
  (bif Nat.ble pc 5 then
   (bif Nat.beq pc 5 then cf_call 2 F_S_isSuspect 8 else cf_stuck)
   else
   (bif Nat.ble pc 8 then
    (bif Nat.beq pc 8 then cf_ifeq 22 11 else cf_stuck)
    else
    (bif Nat.beq pc 11 then cf_aload 0 12 else cf_stuck))))
 else
 (bif Nat.ble pc 16 then
  (bif Nat.ble pc 12 then
   (bif Nat.beq pc 12 then cf_get 4 2 15 else cf_stuck)
   else
   (bif Nat.ble pc 15 then
    (bif Nat.beq pc 15 then cf_iload 1 16 else cf_stuck)
    else
    (bif Nat.beq pc 16 then cf_call 2 F_S_weightOf 19 else cf_stuck)))
  else
  (bif Nat.ble pc 19 then
   (bif Nat.beq pc 19 then cf_goto 23 else cf_stuck)
   else
   (bif Nat.ble pc 22 then
    (bif Nat.beq pc 22 then cf_const 0 23 else cf_stuck)
    else
    (bif Nat.beq pc 23 then cf_iret else cf_stuck))))
noncomputable def F_C_weight : List cf_AV → cf_Wd → Option cf_Rs := cf_F T_C_weight 2 (some .int) (cf_shV 0 1)
theorem r_C_weight_0 {l1 : Option cf_AV} {k : Nat} {st : List cf_AV} {w : cf_Wd} {Q : cf_Rs → Prop} : cf_wp T_C_weight (0, [some (.inr k), l1], st, w) Q ↔ cf_wp T_C_weight (1, [some (.inr k), l1], .inr k :: st, w) Q := cf_w1 rfl
theorem r_C_weight_1 {l0 l1 : Option cf_AV} {st : List cf_AV} {w : cf_Wd} {Q : cf_Rs → Prop} : cf_wp T_C_weight (1, [l0, l1], .inr 0 :: st, w) Q ↔ cf_wp T_C_weight (4, [l0, l1], .inr 10 :: st, w) Q := cf_w1 rfl
theorem r_C_weight_4 {l0 : Option cf_AV} {x : Int32} {st : List cf_AV} {w : cf_Wd} {Q : cf_Rs → Prop} : cf_wp T_C_weight (4, [l0, some (.inl x)], st, w) Q ↔ cf_wp T_C_weight (5, [l0, some (.inl x)], .inl x :: st, w) Q := cf_w1 rfl
theorem r_C_weight_5 {l0 l1 : Option cf_AV} {a1 : Int32} {w : cf_Wd} {Q : cf_Rs → Prop} : cf_wp T_C_weight (5, [l0, l1], [.inl a1, .inr 10], w) Q ↔ ∃ x w1, F_S_isSuspect [.inr 10, .inl a1] w = some (some (.inl x), w1) ∧ cf_wp T_C_weight (8, [l0, l1], [.inl x], w1) Q := cf_wci (n := 2) (F := F_S_isSuspect) (nx := 8) rfl rfl cf_F_b
theorem c_C_weight_5 {l0 l1 : Option cf_AV} {a1 : Int32} {x1 : Int32} {w1 : cf_Wd} {w : cf_Wd} {Q : cf_Rs → Prop} (hs : F_S_isSuspect [.inr 10, .inl a1] w = some (some (.inl x1), w1)) : cf_wp T_C_weight (5, [l0, l1], [.inl a1, .inr 10], w) Q ↔ cf_wp T_C_weight (8, [l0, l1], [.inl x1], w1) Q := r_C_weight_5.trans (cf_xi hs)
theorem r_C_weight_8 {l0 l1 : Option cf_AV} {x : Int32} {st : List cf_AV} {w : cf_Wd} {Q : cf_Rs → Prop} : cf_wp T_C_weight (8, [l0, l1], .inl x :: st, w) Q ↔ (if x = 0 then cf_wp T_C_weight (22, [l0, l1], st, w) Q else cf_wp T_C_weight (11, [l0, l1], st, w) Q) := cf_wi rfl
theorem r_C_weight_11 {l1 : Option cf_AV} {k : Nat} {st : List cf_AV} {w : cf_Wd} {Q : cf_Rs → Prop} : cf_wp T_C_weight (11, [some (.inr k), l1], st, w) Q ↔ cf_wp T_C_weight (12, [some (.inr k), l1], .inr k :: st, w) Q := cf_w1 rfl
theorem r_C_weight_12 {l0 l1 : Option cf_AV} {st : List cf_AV} {w : cf_Wd} {Q : cf_Rs → Prop} : cf_wp T_C_weight (12, [l0, l1], .inr 0 :: st, w) Q ↔ cf_wp T_C_weight (15, [l0, l1], .inr 10 :: st, w) Q := cf_w1 rfl
theorem r_C_weight_15 {l0 : Option cf_AV} {x : Int32} {st : List cf_AV} {w : cf_Wd} {Q : cf_Rs → Prop} : cf_wp T_C_weight (15, [l0, some (.inl x)], st, w) Q ↔ cf_wp T_C_weight (16, [l0, some (.inl x)], .inl x :: st, w) Q := cf_w1 rfl
theorem r_C_weight_16 {l0 l1 : Option cf_AV} {a1 : Int32} {w : cf_Wd} {Q : cf_Rs → Prop} : cf_wp T_C_weight (16, [l0, l1], [.inl a1, .inr 10], w) Q ↔ ∃ x w1, F_S_weightOf [.inr 10, .inl a1] w = some (some (.inl x), w1) ∧ cf_wp T_C_weight (19, [l0, l1], [.inl x], w1) Q := cf_wci (n := 2) (F := F_S_weightOf) (nx := 19) rfl rfl cf_F_i
theorem c_C_weight_16 {l0 l1 : Option cf_AV} {a1 : Int32} {x1 : Int32} {w1 : cf_Wd} {w : cf_Wd} {Q : cf_Rs → Prop} (hs : F_S_weightOf [.inr 10, .inl a1] w = some (some (.inl x1), w1)) : cf_wp T_C_weight (16, [l0, l1], [.inl a1, .inr 10], w) Q ↔ cf_wp T_C_weight (19, [l0, l1], [.inl x1], w1) Q := r_C_weight_16.trans (cf_xi hs)
theorem r_C_weight_19 {l0 l1 : Option cf_AV} {st : List cf_AV} {w : cf_Wd} {Q : cf_Rs → Prop} : cf_wp T_C_weight (19, [l0, l1], st, w) Q ↔ cf_wp T_C_weight (23, [l0, l1], st, w) Q := cf_w1 rfl
theorem r_C_weight_22 {l0 l1 : Option cf_AV} {st : List cf_AV} {w : cf_Wd} {Q : cf_Rs → Prop} : cf_wp T_C_weight (22, [l0, l1], st, w) Q ↔ cf_wp T_C_weight (23, [l0, l1], .inl 0 :: st, w) Q := cf_w1 rfl
theorem r_C_weight_23 {l0 l1 : Option cf_AV} {x : Int32} {w : cf_Wd} {P : Int32 → cf_Wd → Prop} : cf_wp T_C_weight (23, [l0, l1], [.inl x], w) (cf_qi P) ↔ P x w := Iff.trans (cf_wr (q := (some (.inl x), w)) rfl) Iff.rfl
theorem e_C_weight {a1 : Int32} {w : cf_Wd} {P : Int32 → cf_Wd → Prop} (h : cf_wp T_C_weight (0, [some (.inr 0), some (.inl a1)], [], w) (cf_qi P)) : ∃ x w1, F_C_weight [.inr 0, .inl a1] w = some (some (.inl x), w1) ∧ P x w1 := cf_ei rfl (Nat.le_of_ble_eq_true rfl) h
noncomputable def T_C_culprit (pc : Nat) : cf_Rw := bif Nat.ble pc 1 then
 (bif Nat.ble pc 0 then
  (bif Nat.beq pc 0 then cf_aload 0 1 else cf_stuck)
  else
  (bif Nat.beq pc 1 then cf_get 4 2 4 else cf_stuck))
 else
 (bif Nat.ble pc 4 then
  (bif Nat.beq pc 4 then cf_get 3 13 7 else cf_stuck)
  else
  (bif Nat.beq pc 7 then cf_iret else cf_stuck))
noncomputable def F_C_culprit : List cf_AV → cf_Wd → Option cf_Rs := cf_F T_C_culprit 1 (some .int) (cf_shV 0 0)
theorem r_C_culprit_0 {k : Nat} {st : List cf_AV} {w : cf_Wd} {Q : cf_Rs → Prop} : cf_wp T_C_culprit (0, [some (.inr k)], st, w) Q ↔ cf_wp T_C_culprit (1, [some (.inr k)], .inr k :: st, w) Q := cf_w1 rfl
theorem r_C_culprit_1 {l0 : Option cf_AV} {st : List cf_AV} {w : cf_Wd} {Q : cf_Rs → Prop} : cf_wp T_C_culprit (1, [l0], .inr 0 :: st, w) Q ↔ cf_wp T_C_culprit (4, [l0], .inr 10 :: st, w) Q := cf_w1 rfl
theorem r_C_culprit_4 {l0 : Option cf_AV} {st : List cf_AV} {w : cf_Wd} {Q : cf_Rs → Prop} : cf_wp T_C_culprit (4, [l0], .inr 10 :: st, w) Q ↔ cf_wp T_C_culprit (7, [l0], .inl (w 10 13) :: st, w) Q := cf_w1 rfl
theorem r_C_culprit_7 {l0 : Option cf_AV} {x : Int32} {w : cf_Wd} {P : Int32 → cf_Wd → Prop} : cf_wp T_C_culprit (7, [l0], [.inl x], w) (cf_qi P) ↔ P x w := Iff.trans (cf_wr (q := (some (.inl x), w)) rfl) Iff.rfl
theorem e_C_culprit {w : cf_Wd} {P : Int32 → cf_Wd → Prop} (h : cf_wp T_C_culprit (0, [some (.inr 0)], [], w) (cf_qi P)) : ∃ x w1, F_C_culprit [.inr 0] w = some (some (.inl x), w1) ∧ P x w1 := cf_ei rfl (Nat.le_of_ble_eq_true rfl) h
noncomputable def T_C_reduced (pc : Nat) : cf_Rw := bif Nat.ble pc 1 then
 (bif Nat.ble pc 0 then
  (bif Nat.beq pc 0 then cf_aload 0 1 else cf_stuck)
  else
  (bif Nat.beq pc 1 then cf_get 4 2 4 else cf_stuck))
 else
 (bif Nat.ble pc 4 then
  (bif Nat.beq pc 4 then cf_get 3 2 7 else cf_stuck)
  else
  (bif Nat.ble pc 7 then
   (bif Nat.beq pc 7 then cf_get 2 1 10 else cf_stuck)
   else
   (bif Nat.beq pc 10 then cf_iret else cf_stuck)))
noncomputable def F_C_reduced : List cf_AV → cf_Wd → Option cf_Rs := cf_F T_C_reduced 1 (some .int) (cf_shV 0 0)
theorem r_C_reduced_0 {k : Nat} {st : List cf_AV} {w : cf_Wd} {Q : cf_Rs → Prop} : cf_wp T_C_reduced (0, [some (.inr k)], st, w) Q ↔ cf_wp T_C_reduced (1, [some (.inr k)], .inr k :: st, w) Q := cf_w1 rfl
theorem r_C_reduced_1 {l0 : Option cf_AV} {st : List cf_AV} {w : cf_Wd} {Q : cf_Rs → Prop} : cf_wp T_C_reduced (1, [l0], .inr 0 :: st, w) Q ↔ cf_wp T_C_reduced (4, [l0], .inr 10 :: st, w) Q := cf_w1 rfl
theorem r_C_reduced_4 {l0 : Option cf_AV} {st : List cf_AV} {w : cf_Wd} {Q : cf_Rs → Prop} : cf_wp T_C_reduced (4, [l0], .inr 10 :: st, w) Q ↔ cf_wp T_C_reduced (7, [l0], .inr 11 :: st, w) Q := cf_w1 rfl
theorem r_C_reduced_7 {l0 : Option cf_AV} {st : List cf_AV} {w : cf_Wd} {Q : cf_Rs → Prop} : cf_wp T_C_reduced (7, [l0], .inr 11 :: st, w) Q ↔ cf_wp T_C_reduced (10, [l0], .inl (w 11 1) :: st, w) Q := cf_w1 rfl
theorem r_C_reduced_10 {l0 : Option cf_AV} {x : Int32} {w : cf_Wd} {P : Int32 → cf_Wd → Prop} : cf_wp T_C_reduced (10, [l0], [.inl x], w) (cf_qi P) ↔ P x w := Iff.trans (cf_wr (q := (some (.inl x), w)) rfl) Iff.rfl
theorem e_C_reduced {w : cf_Wd} {P : Int32 → cf_Wd → Prop} (h : cf_wp T_C_reduced (0, [some (.inr 0)], [], w) (cf_qi P)) : ∃ x w1, F_C_reduced [.inr 0] w = some (some (.inl x), w1) ∧ P x w1 := cf_ei rfl (Nat.le_of_ble_eq_true rfl) h
noncomputable def T_C_started (pc : Nat) : cf_Rw := bif Nat.ble pc 1 then
 (bif Nat.ble pc 0 then
  (bif Nat.beq pc 0 then cf_aload 0 1 else cf_stuck)
  else
  (bif Nat.beq pc 1 then cf_get 4 2 4 else cf_stuck))
 else
 (bif Nat.ble pc 4 then
  (bif Nat.beq pc 4 then cf_get 3 16 7 else cf_stuck)
  else
  (bif Nat.beq pc 7 then cf_iret else cf_stuck))
noncomputable def F_C_started : List cf_AV → cf_Wd → Option cf_Rs := cf_F T_C_started 1 (some .int) (cf_shV 0 0)
theorem r_C_started_0 {k : Nat} {st : List cf_AV} {w : cf_Wd} {Q : cf_Rs → Prop} : cf_wp T_C_started (0, [some (.inr k)], st, w) Q ↔ cf_wp T_C_started (1, [some (.inr k)], .inr k :: st, w) Q := cf_w1 rfl
theorem r_C_started_1 {l0 : Option cf_AV} {st : List cf_AV} {w : cf_Wd} {Q : cf_Rs → Prop} : cf_wp T_C_started (1, [l0], .inr 0 :: st, w) Q ↔ cf_wp T_C_started (4, [l0], .inr 10 :: st, w) Q := cf_w1 rfl
theorem r_C_started_4 {l0 : Option cf_AV} {st : List cf_AV} {w : cf_Wd} {Q : cf_Rs → Prop} : cf_wp T_C_started (4, [l0], .inr 10 :: st, w) Q ↔ cf_wp T_C_started (7, [l0], .inl (w 10 16) :: st, w) Q := cf_w1 rfl
theorem r_C_started_7 {l0 : Option cf_AV} {x : Int32} {w : cf_Wd} {P : Int32 → cf_Wd → Prop} : cf_wp T_C_started (7, [l0], [.inl x], w) (cf_qi P) ↔ P x w := Iff.trans (cf_wr (q := (some (.inl x), w)) rfl) Iff.rfl
theorem e_C_started {w : cf_Wd} {P : Int32 → cf_Wd → Prop} (h : cf_wp T_C_started (0, [some (.inr 0)], [], w) (cf_qi P)) : ∃ x w1, F_C_started [.inr 0] w = some (some (.inl x), w1) ∧ P x w1 := cf_ei rfl (Nat.le_of_ble_eq_true rfl) h
noncomputable def T_P_in (pc : Nat) : cf_Rw := bif Nat.ble pc 6 then
 (bif Nat.ble pc 1 then
  (bif Nat.ble pc 0 then
   (bif Nat.beq pc 0 then cf_iload 0 1 else cf_stuck)
   else
   (bif Nat.beq pc 1 then cf_iload 1 2 else cf_stuck))
  else
  (bif Nat.ble pc 2 then
   (bif Nat.beq pc 2 then cf_iclt 14 5 else cf_stuck)
   else
   (bif Nat.ble pc 5 then
    (bif Nat.beq pc 5 then cf_iload 0 6 else cf_stuck)
    else
    (bif Nat.beq pc 6 then cf_iload 2 7 else cf_stuck))))
 else
 (bif Nat.ble pc 10 then
  (bif Nat.ble pc 7 then
   (bif Nat.beq pc 7 then cf_icgt 14 10 else cf_stuck)
   else
   (bif Nat.beq pc 10 then cf_const 1 11 else cf_stuck))
  else
  (bif Nat.ble pc 11 then
   (bif Nat.beq pc 11 then cf_goto 15 else cf_stuck)
   else
   (bif Nat.ble pc 14 then
    (bif Nat.beq pc 14 then cf_const 0 15 else cf_stuck)
    else
    (bif Nat.beq pc 15 then cf_iret else cf_stuck))))
noncomputable def F_P_in : List cf_AV → cf_Wd → Option cf_Rs := cf_F T_P_in 3 (some .boolean) (cf_shS 3)
theorem r_P_in_0 {l1 l2 : Option cf_AV} {x : Int32} {st : List cf_AV} {w : cf_Wd} {Q : cf_Rs → Prop} : cf_wp T_P_in (0, [some (.inl x), l1, l2], st, w) Q ↔ cf_wp T_P_in (1, [some (.inl x), l1, l2], .inl x :: st, w) Q := cf_w1 rfl
theorem r_P_in_1 {l0 l2 : Option cf_AV} {x : Int32} {st : List cf_AV} {w : cf_Wd} {Q : cf_Rs → Prop} : cf_wp T_P_in (1, [l0, some (.inl x), l2], st, w) Q ↔ cf_wp T_P_in (2, [l0, some (.inl x), l2], .inl x :: st, w) Q := cf_w1 rfl
theorem r_P_in_2 {l0 l1 l2 : Option cf_AV} {x y : Int32} {st : List cf_AV} {w : cf_Wd} {Q : cf_Rs → Prop} : cf_wp T_P_in (2, [l0, l1, l2], .inl y :: .inl x :: st, w) Q ↔ (if x < y then cf_wp T_P_in (14, [l0, l1, l2], st, w) Q else cf_wp T_P_in (5, [l0, l1, l2], st, w) Q) := cf_wi rfl
theorem r_P_in_5 {l1 l2 : Option cf_AV} {x : Int32} {st : List cf_AV} {w : cf_Wd} {Q : cf_Rs → Prop} : cf_wp T_P_in (5, [some (.inl x), l1, l2], st, w) Q ↔ cf_wp T_P_in (6, [some (.inl x), l1, l2], .inl x :: st, w) Q := cf_w1 rfl
theorem r_P_in_6 {l0 l1 : Option cf_AV} {x : Int32} {st : List cf_AV} {w : cf_Wd} {Q : cf_Rs → Prop} : cf_wp T_P_in (6, [l0, l1, some (.inl x)], st, w) Q ↔ cf_wp T_P_in (7, [l0, l1, some (.inl x)], .inl x :: st, w) Q := cf_w1 rfl
theorem r_P_in_7 {l0 l1 l2 : Option cf_AV} {x y : Int32} {st : List cf_AV} {w : cf_Wd} {Q : cf_Rs → Prop} : cf_wp T_P_in (7, [l0, l1, l2], .inl y :: .inl x :: st, w) Q ↔ (if y < x then cf_wp T_P_in (14, [l0, l1, l2], st, w) Q else cf_wp T_P_in (10, [l0, l1, l2], st, w) Q) := cf_wi rfl
theorem r_P_in_10 {l0 l1 l2 : Option cf_AV} {st : List cf_AV} {w : cf_Wd} {Q : cf_Rs → Prop} : cf_wp T_P_in (10, [l0, l1, l2], st, w) Q ↔ cf_wp T_P_in (11, [l0, l1, l2], .inl 1 :: st, w) Q := cf_w1 rfl
theorem r_P_in_11 {l0 l1 l2 : Option cf_AV} {st : List cf_AV} {w : cf_Wd} {Q : cf_Rs → Prop} : cf_wp T_P_in (11, [l0, l1, l2], st, w) Q ↔ cf_wp T_P_in (15, [l0, l1, l2], st, w) Q := cf_w1 rfl
theorem r_P_in_14 {l0 l1 l2 : Option cf_AV} {st : List cf_AV} {w : cf_Wd} {Q : cf_Rs → Prop} : cf_wp T_P_in (14, [l0, l1, l2], st, w) Q ↔ cf_wp T_P_in (15, [l0, l1, l2], .inl 0 :: st, w) Q := cf_w1 rfl
theorem r_P_in_15 {l0 l1 l2 : Option cf_AV} {x : Int32} {w : cf_Wd} {P : Int32 → cf_Wd → Prop} : cf_wp T_P_in (15, [l0, l1, l2], [.inl x], w) (cf_qb P) ↔ ((x = 0 ∨ x = 1) ∧ P x w) := Iff.trans (cf_wr (q := (some (.inl x), w)) rfl) Iff.rfl
theorem e_P_in {a0 a1 a2 : Int32} {w : cf_Wd} {P : Int32 → cf_Wd → Prop} (h : cf_wp T_P_in (0, [some (.inl a0), some (.inl a1), some (.inl a2)], [], w) (cf_qb P)) : ∃ x w1, F_P_in [.inl a0, .inl a1, .inl a2] w = some (some (.inl x), w1) ∧ P x w1 := cf_eb rfl (Nat.le_of_ble_eq_true rfl) h
noncomputable def T_P_isCommit (pc : Nat) : cf_Rw := bif Nat.ble pc 3 then
 (bif Nat.ble pc 1 then
  (bif Nat.ble pc 0 then
   (bif Nat.beq pc 0 then cf_iload 1 1 else cf_stuck)
   else
   (bif Nat.beq pc 1 then cf_const 0 2 else cf_stuck))
  else
  (bif Nat.ble pc 2 then
   (bif Nat.beq pc 2 then cf_aload 0 3 else cf_stuck)
   else
   (bif Nat.beq pc 3 then cf_get 5 0 6 else cf_stuck)))
 else
 (bif Nat.ble pc 7 then
  (bif Nat.ble pc 6 then
   (bif Nat.beq pc 6 then cf_const 1 7 else cf_stuck)
   else
   (bif Nat.beq pc 7 then cf_bin (fun x y => x - y) 8 else cf_stuck))
  else
  (bif Nat.ble pc 8 then
   (bif Nat.beq pc 8 then cf_call 3 F_P_in 11 else cf_stuck)
   else
   (bif Nat.beq pc 11 then cf_iret else cf_stuck)))
noncomputable def F_P_isCommit : List cf_AV → cf_Wd → Option cf_Rs := cf_F T_P_isCommit 2 (some .boolean) (cf_shV 15 1)
theorem r_P_isCommit_0 {l0 : Option cf_AV} {x : Int32} {st : List cf_AV} {w : cf_Wd} {Q : cf_Rs → Prop} : cf_wp T_P_isCommit (0, [l0, some (.inl x)], st, w) Q ↔ cf_wp T_P_isCommit (1, [l0, some (.inl x)], .inl x :: st, w) Q := cf_w1 rfl
theorem r_P_isCommit_1 {l0 l1 : Option cf_AV} {st : List cf_AV} {w : cf_Wd} {Q : cf_Rs → Prop} : cf_wp T_P_isCommit (1, [l0, l1], st, w) Q ↔ cf_wp T_P_isCommit (2, [l0, l1], .inl 0 :: st, w) Q := cf_w1 rfl
theorem r_P_isCommit_2 {l1 : Option cf_AV} {k : Nat} {st : List cf_AV} {w : cf_Wd} {Q : cf_Rs → Prop} : cf_wp T_P_isCommit (2, [some (.inr k), l1], st, w) Q ↔ cf_wp T_P_isCommit (3, [some (.inr k), l1], .inr k :: st, w) Q := cf_w1 rfl
theorem r_P_isCommit_3 {l0 l1 : Option cf_AV} {st : List cf_AV} {w : cf_Wd} {Q : cf_Rs → Prop} : cf_wp T_P_isCommit (3, [l0, l1], .inr 15 :: st, w) Q ↔ cf_wp T_P_isCommit (6, [l0, l1], .inl (w 15 0) :: st, w) Q := cf_w1 rfl
theorem r_P_isCommit_6 {l0 l1 : Option cf_AV} {st : List cf_AV} {w : cf_Wd} {Q : cf_Rs → Prop} : cf_wp T_P_isCommit (6, [l0, l1], st, w) Q ↔ cf_wp T_P_isCommit (7, [l0, l1], .inl 1 :: st, w) Q := cf_w1 rfl
theorem r_P_isCommit_7 {l0 l1 : Option cf_AV} {x y : Int32} {st : List cf_AV} {w : cf_Wd} {Q : cf_Rs → Prop} : cf_wp T_P_isCommit (7, [l0, l1], .inl y :: .inl x :: st, w) Q ↔ cf_wp T_P_isCommit (8, [l0, l1], .inl (x - y) :: st, w) Q := cf_w1 rfl
theorem r_P_isCommit_8 {l0 l1 : Option cf_AV} {a2 a1 a0 : Int32} {w : cf_Wd} {Q : cf_Rs → Prop} : cf_wp T_P_isCommit (8, [l0, l1], [.inl a2, .inl a1, .inl a0], w) Q ↔ ∃ x w1, F_P_in [.inl a0, .inl a1, .inl a2] w = some (some (.inl x), w1) ∧ cf_wp T_P_isCommit (11, [l0, l1], [.inl x], w1) Q := cf_wci (n := 3) (F := F_P_in) (nx := 11) rfl rfl cf_F_b
theorem c_P_isCommit_8 {l0 l1 : Option cf_AV} {a2 a1 a0 : Int32} {x1 : Int32} {w1 : cf_Wd} {w : cf_Wd} {Q : cf_Rs → Prop} (hs : F_P_in [.inl a0, .inl a1, .inl a2] w = some (some (.inl x1), w1)) : cf_wp T_P_isCommit (8, [l0, l1], [.inl a2, .inl a1, .inl a0], w) Q ↔ cf_wp T_P_isCommit (11, [l0, l1], [.inl x1], w1) Q := r_P_isCommit_8.trans (cf_xi hs)
theorem r_P_isCommit_11 {l0 l1 : Option cf_AV} {x : Int32} {w : cf_Wd} {P : Int32 → cf_Wd → Prop} : cf_wp T_P_isCommit (11, [l0, l1], [.inl x], w) (cf_qb P) ↔ ((x = 0 ∨ x = 1) ∧ P x w) := Iff.trans (cf_wr (q := (some (.inl x), w)) rfl) Iff.rfl
theorem e_P_isCommit {a1 : Int32} {w : cf_Wd} {P : Int32 → cf_Wd → Prop} (h : cf_wp T_P_isCommit (0, [some (.inr 15), some (.inl a1)], [], w) (cf_qb P)) : ∃ x w1, F_P_isCommit [.inr 15, .inl a1] w = some (some (.inl x), w1) ∧ P x w1 := cf_eb rfl (Nat.le_of_ble_eq_true rfl) h
noncomputable def T_P_commit (pc : Nat) : cf_Rw := bif Nat.ble pc 100 then
 (bif Nat.ble pc 51 then
  (bif Nat.ble pc 24 then
   (bif Nat.ble pc 11 then
    (bif Nat.ble pc 4 then
     (bif Nat.ble pc 0 then
      (bif Nat.beq pc 0 then cf_aload 0 1 else cf_stuck)
      else
      (bif Nat.ble pc 1 then
       (bif Nat.beq pc 1 then cf_get 5 0 4 else cf_stuck)
       else
       (bif Nat.beq pc 4 then cf_const 14 6 else cf_stuck)))
     else
     (bif Nat.ble pc 9 then
      (bif Nat.ble pc 6 then
       (bif Nat.beq pc 6 then cf_icge 59 9 else cf_stuck)
       else
       (bif Nat.beq pc 9 then cf_iload 1 10 else cf_stuck))
      else
      (bif Nat.ble pc 10 then
       (bif Nat.beq pc 10 then cf_const (-1) 11 else cf_stuck)
       else
       (bif Nat.beq pc 11 then cf_iceq 22 14 else cf_stuck))))
    else
    (bif Nat.ble pc 16 then
     (bif Nat.ble pc 14 then
      (bif Nat.beq pc 14 then cf_aload 0 15 else cf_stuck)
      else
      (bif Nat.ble pc 15 then
       (bif Nat.beq pc 15 then cf_iload 1 16 else cf_stuck)
       else
       (bif Nat.beq pc 16 then cf_call 2 F_P_isCommit 19 else cf_stuck)))
     else
     (bif Nat.ble pc 22 then
      (bif Nat.ble pc 19 then
       (bif Nat.beq pc 19 then cf_ifeq 59 22 else cf_stuck)
       else
       (bif Nat.beq pc 22 then cf_iload 2 23 else cf_stuck))
      else
      (bif Nat.ble pc 23 then
       (bif Nat.beq pc 23 then cf_const (-1) 24 else cf_stuck)
       else
       (bif Nat.beq pc 24 then cf_iceq 35 27 else cf_stuck)))))
   else
   (bif Nat.ble pc 37 then
    (bif Nat.ble pc 29 then
     (bif Nat.ble pc 27 then
      (bif Nat.beq pc 27 then cf_aload 0 28 else cf_stuck)
      else
      (bif Nat.ble pc 28 then
       (bif Nat.beq pc 28 then cf_iload 2 29 else cf_stuck)
       else
       (bif Nat.beq pc 29 then cf_call 2 F_P_isCommit 32 else cf_stuck)))
     else
     (bif Nat.ble pc 35 then
      (bif Nat.ble pc 32 then
       (bif Nat.beq pc 32 then cf_ifeq 59 35 else cf_stuck)
       else
       (bif Nat.beq pc 35 then cf_iload 1 36 else cf_stuck))
      else
      (bif Nat.ble pc 36 then
       (bif Nat.beq pc 36 then cf_const (-1) 37 else cf_stuck)
       else
       (bif Nat.beq pc 37 then cf_icne 45 40 else cf_stuck))))
    else
    (bif Nat.ble pc 45 then
     (bif Nat.ble pc 41 then
      (bif Nat.ble pc 40 then
       (bif Nat.beq pc 40 then cf_iload 2 41 else cf_stuck)
       else
       (bif Nat.beq pc 41 then cf_const (-1) 42 else cf_stuck))
      else
      (bif Nat.ble pc 42 then
       (bif Nat.beq pc 42 then cf_icne 59 45 else cf_stuck)
       else
       (bif Nat.beq pc 45 then cf_iload 1 46 else cf_stuck)))
     else
     (bif Nat.ble pc 47 then
      (bif Nat.ble pc 46 then
       (bif Nat.beq pc 46 then cf_iload 2 47 else cf_stuck)
       else
       (bif Nat.beq pc 47 then cf_icne 55 50 else cf_stuck))
      else
      (bif Nat.ble pc 50 then
       (bif Nat.beq pc 50 then cf_iload 1 51 else cf_stuck)
       else
       (bif Nat.beq pc 51 then cf_const (-1) 52 else cf_stuck))))))
  else
  (bif Nat.ble pc 75 then
   (bif Nat.ble pc 62 then
    (bif Nat.ble pc 56 then
     (bif Nat.ble pc 52 then
      (bif Nat.beq pc 52 then cf_icne 59 55 else cf_stuck)
      else
      (bif Nat.ble pc 55 then
       (bif Nat.beq pc 55 then cf_const 1 56 else cf_stuck)
       else
       (bif Nat.beq pc 56 then cf_goto 60 else cf_stuck)))
     else
     (bif Nat.ble pc 60 then
      (bif Nat.ble pc 59 then
       (bif Nat.beq pc 59 then cf_const 0 60 else cf_stuck)
       else
       (bif Nat.beq pc 60 then cf_istore 3 61 else cf_stuck))
      else
      (bif Nat.ble pc 61 then
       (bif Nat.beq pc 61 then cf_iload 3 62 else cf_stuck)
       else
       (bif Nat.beq pc 62 then cf_ifne 67 65 else cf_stuck))))
    else
    (bif Nat.ble pc 67 then
     (bif Nat.ble pc 65 then
      (bif Nat.beq pc 65 then cf_const (-1) 66 else cf_stuck)
      else
      (bif Nat.ble pc 66 then
       (bif Nat.beq pc 66 then cf_iret else cf_stuck)
       else
       (bif Nat.beq pc 67 then cf_aload 0 68 else cf_stuck)))
     else
     (bif Nat.ble pc 71 then
      (bif Nat.ble pc 68 then
       (bif Nat.beq pc 68 then cf_get 5 1 71 else cf_stuck)
       else
       (bif Nat.beq pc 71 then cf_aload 0 72 else cf_stuck))
      else
      (bif Nat.ble pc 72 then
       (bif Nat.beq pc 72 then cf_get 5 0 75 else cf_stuck)
       else
       (bif Nat.beq pc 75 then cf_iload 1 76 else cf_stuck)))))
   else
   (bif Nat.ble pc 86 then
    (bif Nat.ble pc 78 then
     (bif Nat.ble pc 76 then
      (bif Nat.beq pc 76 then cf_iast 77 else cf_stuck)
      else
      (bif Nat.ble pc 77 then
       (bif Nat.beq pc 77 then cf_aload 0 78 else cf_stuck)
       else
       (bif Nat.beq pc 78 then cf_get 5 2 81 else cf_stuck)))
     else
     (bif Nat.ble pc 82 then
      (bif Nat.ble pc 81 then
       (bif Nat.beq pc 81 then cf_aload 0 82 else cf_stuck)
       else
       (bif Nat.beq pc 82 then cf_get 5 0 85 else cf_stuck))
      else
      (bif Nat.ble pc 85 then
       (bif Nat.beq pc 85 then cf_iload 2 86 else cf_stuck)
       else
       (bif Nat.beq pc 86 then cf_iast 87 else cf_stuck))))
    else
    (bif Nat.ble pc 92 then
     (bif Nat.ble pc 88 then
      (bif Nat.ble pc 87 then
       (bif Nat.beq pc 87 then cf_aload 0 88 else cf_stuck)
       else
       (bif Nat.beq pc 88 then cf_get 5 4 91 else cf_stuck))
      else
      (bif Nat.ble pc 91 then
       (bif Nat.beq pc 91 then cf_aload 0 92 else cf_stuck)
       else
       (bif Nat.beq pc 92 then cf_get 5 0 95 else cf_stuck)))
     else
     (bif Nat.ble pc 96 then
      (bif Nat.ble pc 95 then
       (bif Nat.beq pc 95 then cf_const 1 96 else cf_stuck)
       else
       (bif Nat.beq pc 96 then cf_aload 0 97 else cf_stuck))
      else
      (bif Nat.ble pc 97 then
       (bif Nat.beq pc 97 then cf_get 5 0 100 else cf_stuck)
       else
       (bif Nat.beq pc 100 then cf_bin (fun x y => x <<< (y &&& 31)) 101 else cf_stuck)))))))
 else
 (bif Nat.ble pc 149 then
  (bif Nat.ble pc 124 then
   (bif Nat.ble pc 113 then
    (bif Nat.ble pc 105 then
     (bif Nat.ble pc 101 then
      (bif Nat.beq pc 101 then cf_iload 1 102 else cf_stuck)
      else
      (bif Nat.ble pc 102 then
       (bif Nat.beq pc 102 then cf_ifge 109 105 else cf_stuck)
       else
       (bif Nat.beq pc 105 then cf_const 0 106 else cf_stuck)))
     else
     (bif Nat.ble pc 109 then
      (bif Nat.ble pc 106 then
       (bif Nat.beq pc 106 then cf_goto 115 else cf_stuck)
       else
       (bif Nat.beq pc 109 then cf_aload 0 110 else cf_stuck))
      else
      (bif Nat.ble pc 110 then
       (bif Nat.beq pc 110 then cf_get 5 4 113 else cf_stuck)
       else
       (bif Nat.beq pc 113 then cf_iload 1 114 else cf_stuck))))
    else
    (bif Nat.ble pc 116 then
     (bif Nat.ble pc 114 then
      (bif Nat.beq pc 114 then cf_iald 115 else cf_stuck)
      else
      (bif Nat.ble pc 115 then
       (bif Nat.beq pc 115 then cf_bin (fun x y => x ||| y) 116 else cf_stuck)
       else
       (bif Nat.beq pc 116 then cf_iload 2 117 else cf_stuck)))
     else
     (bif Nat.ble pc 120 then
      (bif Nat.ble pc 117 then
       (bif Nat.beq pc 117 then cf_ifge 124 120 else cf_stuck)
       else
       (bif Nat.beq pc 120 then cf_const 0 121 else cf_stuck))
      else
      (bif Nat.ble pc 121 then
       (bif Nat.beq pc 121 then cf_goto 130 else cf_stuck)
       else
       (bif Nat.beq pc 124 then cf_aload 0 125 else cf_stuck)))))
   else
   (bif Nat.ble pc 133 then
    (bif Nat.ble pc 129 then
     (bif Nat.ble pc 125 then
      (bif Nat.beq pc 125 then cf_get 5 4 128 else cf_stuck)
      else
      (bif Nat.ble pc 128 then
       (bif Nat.beq pc 128 then cf_iload 2 129 else cf_stuck)
       else
       (bif Nat.beq pc 129 then cf_iald 130 else cf_stuck)))
     else
     (bif Nat.ble pc 131 then
      (bif Nat.ble pc 130 then
       (bif Nat.beq pc 130 then cf_bin (fun x y => x ||| y) 131 else cf_stuck)
       else
       (bif Nat.beq pc 131 then cf_iast 132 else cf_stuck))
      else
      (bif Nat.ble pc 132 then
       (bif Nat.beq pc 132 then cf_const 0 133 else cf_stuck)
       else
       (bif Nat.beq pc 133 then cf_istore 4 135 else cf_stuck))))
    else
    (bif Nat.ble pc 142 then
     (bif Nat.ble pc 137 then
      (bif Nat.ble pc 135 then
       (bif Nat.beq pc 135 then cf_iload 4 137 else cf_stuck)
       else
       (bif Nat.beq pc 137 then cf_const 8 139 else cf_stuck))
      else
      (bif Nat.ble pc 139 then
       (bif Nat.beq pc 139 then cf_icge 183 142 else cf_stuck)
       else
       (bif Nat.beq pc 142 then cf_aload 0 143 else cf_stuck)))
     else
     (bif Nat.ble pc 146 then
      (bif Nat.ble pc 143 then
       (bif Nat.beq pc 143 then cf_get 5 3 146 else cf_stuck)
       else
       (bif Nat.beq pc 146 then cf_const 8 148 else cf_stuck))
      else
      (bif Nat.ble pc 148 then
       (bif Nat.beq pc 148 then cf_aload 0 149 else cf_stuck)
       else
       (bif Nat.beq pc 149 then cf_get 5 0 152 else cf_stuck))))))
  else
  (bif Nat.ble pc 174 then
   (bif Nat.ble pc 161 then
    (bif Nat.ble pc 155 then
     (bif Nat.ble pc 152 then
      (bif Nat.beq pc 152 then cf_bin (fun x y => x * y) 153 else cf_stuck)
      else
      (bif Nat.ble pc 153 then
       (bif Nat.beq pc 153 then cf_iload 4 155 else cf_stuck)
       else
       (bif Nat.beq pc 155 then cf_bin (fun x y => x + y) 156 else cf_stuck)))
     else
     (bif Nat.ble pc 157 then
      (bif Nat.ble pc 156 then
       (bif Nat.beq pc 156 then cf_iload 1 157 else cf_stuck)
       else
       (bif Nat.beq pc 157 then cf_ifge 164 160 else cf_stuck))
      else
      (bif Nat.ble pc 160 then
       (bif Nat.beq pc 160 then cf_const 0 161 else cf_stuck)
       else
       (bif Nat.beq pc 161 then cf_goto 176 else cf_stuck))))
    else
    (bif Nat.ble pc 168 then
     (bif Nat.ble pc 164 then
      (bif Nat.beq pc 164 then cf_aload 0 165 else cf_stuck)
      else
      (bif Nat.ble pc 165 then
       (bif Nat.beq pc 165 then cf_get 5 3 168 else cf_stuck)
       else
       (bif Nat.beq pc 168 then cf_const 8 170 else cf_stuck)))
     else
     (bif Nat.ble pc 171 then
      (bif Nat.ble pc 170 then
       (bif Nat.beq pc 170 then cf_iload 1 171 else cf_stuck)
       else
       (bif Nat.beq pc 171 then cf_bin (fun x y => x * y) 172 else cf_stuck))
      else
      (bif Nat.ble pc 172 then
       (bif Nat.beq pc 172 then cf_iload 4 174 else cf_stuck)
       else
       (bif Nat.beq pc 174 then cf_bin (fun x y => x + y) 175 else cf_stuck)))))
   else
   (bif Nat.ble pc 185 then
    (bif Nat.ble pc 177 then
     (bif Nat.ble pc 175 then
      (bif Nat.beq pc 175 then cf_iald 176 else cf_stuck)
      else
      (bif Nat.ble pc 176 then
       (bif Nat.beq pc 176 then cf_iast 177 else cf_stuck)
       else
       (bif Nat.beq pc 177 then cf_iinc 4 1 180 else cf_stuck)))
     else
     (bif Nat.ble pc 183 then
      (bif Nat.ble pc 180 then
       (bif Nat.beq pc 180 then cf_goto 135 else cf_stuck)
       else
       (bif Nat.beq pc 183 then cf_aload 0 184 else cf_stuck))
      else
      (bif Nat.ble pc 184 then
       (bif Nat.beq pc 184 then cf_aload 0 185 else cf_stuck)
       else
       (bif Nat.beq pc 185 then cf_get 5 0 188 else cf_stuck))))
    else
    (bif Nat.ble pc 193 then
     (bif Nat.ble pc 189 then
      (bif Nat.ble pc 188 then
       (bif Nat.beq pc 188 then cf_const 1 189 else cf_stuck)
       else
       (bif Nat.beq pc 189 then cf_bin (fun x y => x + y) 190 else cf_stuck))
      else
      (bif Nat.ble pc 190 then
       (bif Nat.beq pc 190 then cf_put 5 0 193 else cf_stuck)
       else
       (bif Nat.beq pc 193 then cf_aload 0 194 else cf_stuck)))
     else
     (bif Nat.ble pc 197 then
      (bif Nat.ble pc 194 then
       (bif Nat.beq pc 194 then cf_get 5 0 197 else cf_stuck)
       else
       (bif Nat.beq pc 197 then cf_const 1 198 else cf_stuck))
      else
      (bif Nat.ble pc 198 then
       (bif Nat.beq pc 198 then cf_bin (fun x y => x - y) 199 else cf_stuck)
       else
       (bif Nat.beq pc 199 then cf_iret else cf_stuck)))))))
noncomputable def F_P_commit : List cf_AV → cf_Wd → Option cf_Rs := cf_F T_P_commit 5 (some .int) (cf_shV 15 2)
theorem r_P_commit_0 {l1 l2 l3 l4 : Option cf_AV} {k : Nat} {st : List cf_AV} {w : cf_Wd} {Q : cf_Rs → Prop} : cf_wp T_P_commit (0, [some (.inr k), l1, l2, l3, l4], st, w) Q ↔ cf_wp T_P_commit (1, [some (.inr k), l1, l2, l3, l4], .inr k :: st, w) Q := cf_w1 rfl
theorem r_P_commit_1 {l0 l1 l2 l3 l4 : Option cf_AV} {st : List cf_AV} {w : cf_Wd} {Q : cf_Rs → Prop} : cf_wp T_P_commit (1, [l0, l1, l2, l3, l4], .inr 15 :: st, w) Q ↔ cf_wp T_P_commit (4, [l0, l1, l2, l3, l4], .inl (w 15 0) :: st, w) Q := cf_w1 rfl
theorem r_P_commit_4 {l0 l1 l2 l3 l4 : Option cf_AV} {st : List cf_AV} {w : cf_Wd} {Q : cf_Rs → Prop} : cf_wp T_P_commit (4, [l0, l1, l2, l3, l4], st, w) Q ↔ cf_wp T_P_commit (6, [l0, l1, l2, l3, l4], .inl 14 :: st, w) Q := cf_w1 rfl
theorem r_P_commit_6 {l0 l1 l2 l3 l4 : Option cf_AV} {x y : Int32} {st : List cf_AV} {w : cf_Wd} {Q : cf_Rs → Prop} : cf_wp T_P_commit (6, [l0, l1, l2, l3, l4], .inl y :: .inl x :: st, w) Q ↔ (if y ≤ x then cf_wp T_P_commit (59, [l0, l1, l2, l3, l4], st, w) Q else cf_wp T_P_commit (9, [l0, l1, l2, l3, l4], st, w) Q) := cf_wi rfl
theorem r_P_commit_9 {l0 l2 l3 l4 : Option cf_AV} {x : Int32} {st : List cf_AV} {w : cf_Wd} {Q : cf_Rs → Prop} : cf_wp T_P_commit (9, [l0, some (.inl x), l2, l3, l4], st, w) Q ↔ cf_wp T_P_commit (10, [l0, some (.inl x), l2, l3, l4], .inl x :: st, w) Q := cf_w1 rfl
theorem r_P_commit_10 {l0 l1 l2 l3 l4 : Option cf_AV} {st : List cf_AV} {w : cf_Wd} {Q : cf_Rs → Prop} : cf_wp T_P_commit (10, [l0, l1, l2, l3, l4], st, w) Q ↔ cf_wp T_P_commit (11, [l0, l1, l2, l3, l4], .inl (-1) :: st, w) Q := cf_w1 rfl
theorem r_P_commit_11 {l0 l1 l2 l3 l4 : Option cf_AV} {x y : Int32} {st : List cf_AV} {w : cf_Wd} {Q : cf_Rs → Prop} : cf_wp T_P_commit (11, [l0, l1, l2, l3, l4], .inl y :: .inl x :: st, w) Q ↔ (if x = y then cf_wp T_P_commit (22, [l0, l1, l2, l3, l4], st, w) Q else cf_wp T_P_commit (14, [l0, l1, l2, l3, l4], st, w) Q) := cf_wi rfl
theorem r_P_commit_14 {l1 l2 l3 l4 : Option cf_AV} {k : Nat} {st : List cf_AV} {w : cf_Wd} {Q : cf_Rs → Prop} : cf_wp T_P_commit (14, [some (.inr k), l1, l2, l3, l4], st, w) Q ↔ cf_wp T_P_commit (15, [some (.inr k), l1, l2, l3, l4], .inr k :: st, w) Q := cf_w1 rfl
theorem r_P_commit_15 {l0 l2 l3 l4 : Option cf_AV} {x : Int32} {st : List cf_AV} {w : cf_Wd} {Q : cf_Rs → Prop} : cf_wp T_P_commit (15, [l0, some (.inl x), l2, l3, l4], st, w) Q ↔ cf_wp T_P_commit (16, [l0, some (.inl x), l2, l3, l4], .inl x :: st, w) Q := cf_w1 rfl
theorem r_P_commit_16 {l0 l1 l2 l3 l4 : Option cf_AV} {a1 : Int32} {w : cf_Wd} {Q : cf_Rs → Prop} : cf_wp T_P_commit (16, [l0, l1, l2, l3, l4], [.inl a1, .inr 15], w) Q ↔ ∃ x w1, F_P_isCommit [.inr 15, .inl a1] w = some (some (.inl x), w1) ∧ cf_wp T_P_commit (19, [l0, l1, l2, l3, l4], [.inl x], w1) Q := cf_wci (n := 2) (F := F_P_isCommit) (nx := 19) rfl rfl cf_F_b
theorem c_P_commit_16 {l0 l1 l2 l3 l4 : Option cf_AV} {a1 : Int32} {x1 : Int32} {w1 : cf_Wd} {w : cf_Wd} {Q : cf_Rs → Prop} (hs : F_P_isCommit [.inr 15, .inl a1] w = some (some (.inl x1), w1)) : cf_wp T_P_commit (16, [l0, l1, l2, l3, l4], [.inl a1, .inr 15], w) Q ↔ cf_wp T_P_commit (19, [l0, l1, l2, l3, l4], [.inl x1], w1) Q := r_P_commit_16.trans (cf_xi hs)
theorem r_P_commit_19 {l0 l1 l2 l3 l4 : Option cf_AV} {x : Int32} {st : List cf_AV} {w : cf_Wd} {Q : cf_Rs → Prop} : cf_wp T_P_commit (19, [l0, l1, l2, l3, l4], .inl x :: st, w) Q ↔ (if x = 0 then cf_wp T_P_commit (59, [l0, l1, l2, l3, l4], st, w) Q else cf_wp T_P_commit (22, [l0, l1, l2, l3, l4], st, w) Q) := cf_wi rfl
theorem r_P_commit_22 {l0 l1 l3 l4 : Option cf_AV} {x : Int32} {st : List cf_AV} {w : cf_Wd} {Q : cf_Rs → Prop} : cf_wp T_P_commit (22, [l0, l1, some (.inl x), l3, l4], st, w) Q ↔ cf_wp T_P_commit (23, [l0, l1, some (.inl x), l3, l4], .inl x :: st, w) Q := cf_w1 rfl
theorem r_P_commit_23 {l0 l1 l2 l3 l4 : Option cf_AV} {st : List cf_AV} {w : cf_Wd} {Q : cf_Rs → Prop} : cf_wp T_P_commit (23, [l0, l1, l2, l3, l4], st, w) Q ↔ cf_wp T_P_commit (24, [l0, l1, l2, l3, l4], .inl (-1) :: st, w) Q := cf_w1 rfl
theorem r_P_commit_24 {l0 l1 l2 l3 l4 : Option cf_AV} {x y : Int32} {st : List cf_AV} {w : cf_Wd} {Q : cf_Rs → Prop} : cf_wp T_P_commit (24, [l0, l1, l2, l3, l4], .inl y :: .inl x :: st, w) Q ↔ (if x = y then cf_wp T_P_commit (35, [l0, l1, l2, l3, l4], st, w) Q else cf_wp T_P_commit (27, [l0, l1, l2, l3, l4], st, w) Q) := cf_wi rfl
theorem r_P_commit_27 {l1 l2 l3 l4 : Option cf_AV} {k : Nat} {st : List cf_AV} {w : cf_Wd} {Q : cf_Rs → Prop} : cf_wp T_P_commit (27, [some (.inr k), l1, l2, l3, l4], st, w) Q ↔ cf_wp T_P_commit (28, [some (.inr k), l1, l2, l3, l4], .inr k :: st, w) Q := cf_w1 rfl
theorem r_P_commit_28 {l0 l1 l3 l4 : Option cf_AV} {x : Int32} {st : List cf_AV} {w : cf_Wd} {Q : cf_Rs → Prop} : cf_wp T_P_commit (28, [l0, l1, some (.inl x), l3, l4], st, w) Q ↔ cf_wp T_P_commit (29, [l0, l1, some (.inl x), l3, l4], .inl x :: st, w) Q := cf_w1 rfl
theorem r_P_commit_29 {l0 l1 l2 l3 l4 : Option cf_AV} {a1 : Int32} {w : cf_Wd} {Q : cf_Rs → Prop} : cf_wp T_P_commit (29, [l0, l1, l2, l3, l4], [.inl a1, .inr 15], w) Q ↔ ∃ x w1, F_P_isCommit [.inr 15, .inl a1] w = some (some (.inl x), w1) ∧ cf_wp T_P_commit (32, [l0, l1, l2, l3, l4], [.inl x], w1) Q := cf_wci (n := 2) (F := F_P_isCommit) (nx := 32) rfl rfl cf_F_b
theorem c_P_commit_29 {l0 l1 l2 l3 l4 : Option cf_AV} {a1 : Int32} {x1 : Int32} {w1 : cf_Wd} {w : cf_Wd} {Q : cf_Rs → Prop} (hs : F_P_isCommit [.inr 15, .inl a1] w = some (some (.inl x1), w1)) : cf_wp T_P_commit (29, [l0, l1, l2, l3, l4], [.inl a1, .inr 15], w) Q ↔ cf_wp T_P_commit (32, [l0, l1, l2, l3, l4], [.inl x1], w1) Q := r_P_commit_29.trans (cf_xi hs)
theorem r_P_commit_32 {l0 l1 l2 l3 l4 : Option cf_AV} {x : Int32} {st : List cf_AV} {w : cf_Wd} {Q : cf_Rs → Prop} : cf_wp T_P_commit (32, [l0, l1, l2, l3, l4], .inl x :: st, w) Q ↔ (if x = 0 then cf_wp T_P_commit (59, [l0, l1, l2, l3, l4], st, w) Q else cf_wp T_P_commit (35, [l0, l1, l2, l3, l4], st, w) Q) := cf_wi rfl
theorem r_P_commit_35 {l0 l2 l3 l4 : Option cf_AV} {x : Int32} {st : List cf_AV} {w : cf_Wd} {Q : cf_Rs → Prop} : cf_wp T_P_commit (35, [l0, some (.inl x), l2, l3, l4], st, w) Q ↔ cf_wp T_P_commit (36, [l0, some (.inl x), l2, l3, l4], .inl x :: st, w) Q := cf_w1 rfl
theorem r_P_commit_36 {l0 l1 l2 l3 l4 : Option cf_AV} {st : List cf_AV} {w : cf_Wd} {Q : cf_Rs → Prop} : cf_wp T_P_commit (36, [l0, l1, l2, l3, l4], st, w) Q ↔ cf_wp T_P_commit (37, [l0, l1, l2, l3, l4], .inl (-1) :: st, w) Q := cf_w1 rfl
theorem r_P_commit_37 {l0 l1 l2 l3 l4 : Option cf_AV} {x y : Int32} {st : List cf_AV} {w : cf_Wd} {Q : cf_Rs → Prop} : cf_wp T_P_commit (37, [l0, l1, l2, l3, l4], .inl y :: .inl x :: st, w) Q ↔ (if ¬ x = y then cf_wp T_P_commit (45, [l0, l1, l2, l3, l4], st, w) Q else cf_wp T_P_commit (40, [l0, l1, l2, l3, l4], st, w) Q) := cf_wi rfl
theorem r_P_commit_40 {l0 l1 l3 l4 : Option cf_AV} {x : Int32} {st : List cf_AV} {w : cf_Wd} {Q : cf_Rs → Prop} : cf_wp T_P_commit (40, [l0, l1, some (.inl x), l3, l4], st, w) Q ↔ cf_wp T_P_commit (41, [l0, l1, some (.inl x), l3, l4], .inl x :: st, w) Q := cf_w1 rfl
theorem r_P_commit_41 {l0 l1 l2 l3 l4 : Option cf_AV} {st : List cf_AV} {w : cf_Wd} {Q : cf_Rs → Prop} : cf_wp T_P_commit (41, [l0, l1, l2, l3, l4], st, w) Q ↔ cf_wp T_P_commit (42, [l0, l1, l2, l3, l4], .inl (-1) :: st, w) Q := cf_w1 rfl
theorem r_P_commit_42 {l0 l1 l2 l3 l4 : Option cf_AV} {x y : Int32} {st : List cf_AV} {w : cf_Wd} {Q : cf_Rs → Prop} : cf_wp T_P_commit (42, [l0, l1, l2, l3, l4], .inl y :: .inl x :: st, w) Q ↔ (if ¬ x = y then cf_wp T_P_commit (59, [l0, l1, l2, l3, l4], st, w) Q else cf_wp T_P_commit (45, [l0, l1, l2, l3, l4], st, w) Q) := cf_wi rfl
theorem r_P_commit_45 {l0 l2 l3 l4 : Option cf_AV} {x : Int32} {st : List cf_AV} {w : cf_Wd} {Q : cf_Rs → Prop} : cf_wp T_P_commit (45, [l0, some (.inl x), l2, l3, l4], st, w) Q ↔ cf_wp T_P_commit (46, [l0, some (.inl x), l2, l3, l4], .inl x :: st, w) Q := cf_w1 rfl
theorem r_P_commit_46 {l0 l1 l3 l4 : Option cf_AV} {x : Int32} {st : List cf_AV} {w : cf_Wd} {Q : cf_Rs → Prop} : cf_wp T_P_commit (46, [l0, l1, some (.inl x), l3, l4], st, w) Q ↔ cf_wp T_P_commit (47, [l0, l1, some (.inl x), l3, l4], .inl x :: st, w) Q := cf_w1 rfl
theorem r_P_commit_47 {l0 l1 l2 l3 l4 : Option cf_AV} {x y : Int32} {st : List cf_AV} {w : cf_Wd} {Q : cf_Rs → Prop} : cf_wp T_P_commit (47, [l0, l1, l2, l3, l4], .inl y :: .inl x :: st, w) Q ↔ (if ¬ x = y then cf_wp T_P_commit (55, [l0, l1, l2, l3, l4], st, w) Q else cf_wp T_P_commit (50, [l0, l1, l2, l3, l4], st, w) Q) := cf_wi rfl
theorem r_P_commit_50 {l0 l2 l3 l4 : Option cf_AV} {x : Int32} {st : List cf_AV} {w : cf_Wd} {Q : cf_Rs → Prop} : cf_wp T_P_commit (50, [l0, some (.inl x), l2, l3, l4], st, w) Q ↔ cf_wp T_P_commit (51, [l0, some (.inl x), l2, l3, l4], .inl x :: st, w) Q := cf_w1 rfl
theorem r_P_commit_51 {l0 l1 l2 l3 l4 : Option cf_AV} {st : List cf_AV} {w : cf_Wd} {Q : cf_Rs → Prop} : cf_wp T_P_commit (51, [l0, l1, l2, l3, l4], st, w) Q ↔ cf_wp T_P_commit (52, [l0, l1, l2, l3, l4], .inl (-1) :: st, w) Q := cf_w1 rfl
theorem r_P_commit_52 {l0 l1 l2 l3 l4 : Option cf_AV} {x y : Int32} {st : List cf_AV} {w : cf_Wd} {Q : cf_Rs → Prop} : cf_wp T_P_commit (52, [l0, l1, l2, l3, l4], .inl y :: .inl x :: st, w) Q ↔ (if ¬ x = y then cf_wp T_P_commit (59, [l0, l1, l2, l3, l4], st, w) Q else cf_wp T_P_commit (55, [l0, l1, l2, l3, l4], st, w) Q) := cf_wi rfl
theorem r_P_commit_55 {l0 l1 l2 l3 l4 : Option cf_AV} {st : List cf_AV} {w : cf_Wd} {Q : cf_Rs → Prop} : cf_wp T_P_commit (55, [l0, l1, l2, l3, l4], st, w) Q ↔ cf_wp T_P_commit (56, [l0, l1, l2, l3, l4], .inl 1 :: st, w) Q := cf_w1 rfl
theorem r_P_commit_56 {l0 l1 l2 l3 l4 : Option cf_AV} {st : List cf_AV} {w : cf_Wd} {Q : cf_Rs → Prop} : cf_wp T_P_commit (56, [l0, l1, l2, l3, l4], st, w) Q ↔ cf_wp T_P_commit (60, [l0, l1, l2, l3, l4], st, w) Q := cf_w1 rfl
theorem r_P_commit_59 {l0 l1 l2 l3 l4 : Option cf_AV} {st : List cf_AV} {w : cf_Wd} {Q : cf_Rs → Prop} : cf_wp T_P_commit (59, [l0, l1, l2, l3, l4], st, w) Q ↔ cf_wp T_P_commit (60, [l0, l1, l2, l3, l4], .inl 0 :: st, w) Q := cf_w1 rfl
theorem r_P_commit_60 {l0 l1 l2 l3 l4 : Option cf_AV} {x : Int32} {st : List cf_AV} {w : cf_Wd} {Q : cf_Rs → Prop} : cf_wp T_P_commit (60, [l0, l1, l2, l3, l4], .inl x :: st, w) Q ↔ cf_wp T_P_commit (61, [l0, l1, l2, some (.inl x), l4], st, w) Q := cf_w1 rfl
theorem r_P_commit_61 {l0 l1 l2 l4 : Option cf_AV} {x : Int32} {st : List cf_AV} {w : cf_Wd} {Q : cf_Rs → Prop} : cf_wp T_P_commit (61, [l0, l1, l2, some (.inl x), l4], st, w) Q ↔ cf_wp T_P_commit (62, [l0, l1, l2, some (.inl x), l4], .inl x :: st, w) Q := cf_w1 rfl
theorem r_P_commit_62 {l0 l1 l2 l3 l4 : Option cf_AV} {x : Int32} {st : List cf_AV} {w : cf_Wd} {Q : cf_Rs → Prop} : cf_wp T_P_commit (62, [l0, l1, l2, l3, l4], .inl x :: st, w) Q ↔ (if ¬ x = 0 then cf_wp T_P_commit (67, [l0, l1, l2, l3, l4], st, w) Q else cf_wp T_P_commit (65, [l0, l1, l2, l3, l4], st, w) Q) := cf_wi rfl
theorem r_P_commit_65 {l0 l1 l2 l3 l4 : Option cf_AV} {st : List cf_AV} {w : cf_Wd} {Q : cf_Rs → Prop} : cf_wp T_P_commit (65, [l0, l1, l2, l3, l4], st, w) Q ↔ cf_wp T_P_commit (66, [l0, l1, l2, l3, l4], .inl (-1) :: st, w) Q := cf_w1 rfl
theorem r_P_commit_66 {l0 l1 l2 l3 l4 : Option cf_AV} {x : Int32} {w : cf_Wd} {P : Int32 → cf_Wd → Prop} : cf_wp T_P_commit (66, [l0, l1, l2, l3, l4], [.inl x], w) (cf_qi P) ↔ P x w := Iff.trans (cf_wr (q := (some (.inl x), w)) rfl) Iff.rfl
theorem r_P_commit_67 {l1 l2 l3 l4 : Option cf_AV} {k : Nat} {st : List cf_AV} {w : cf_Wd} {Q : cf_Rs → Prop} : cf_wp T_P_commit (67, [some (.inr k), l1, l2, l3, l4], st, w) Q ↔ cf_wp T_P_commit (68, [some (.inr k), l1, l2, l3, l4], .inr k :: st, w) Q := cf_w1 rfl
theorem r_P_commit_68 {l0 l1 l2 l3 l4 : Option cf_AV} {st : List cf_AV} {w : cf_Wd} {Q : cf_Rs → Prop} : cf_wp T_P_commit (68, [l0, l1, l2, l3, l4], .inr 15 :: st, w) Q ↔ cf_wp T_P_commit (71, [l0, l1, l2, l3, l4], .inr 16 :: st, w) Q := cf_w1 rfl
theorem r_P_commit_71 {l1 l2 l3 l4 : Option cf_AV} {k : Nat} {st : List cf_AV} {w : cf_Wd} {Q : cf_Rs → Prop} : cf_wp T_P_commit (71, [some (.inr k), l1, l2, l3, l4], st, w) Q ↔ cf_wp T_P_commit (72, [some (.inr k), l1, l2, l3, l4], .inr k :: st, w) Q := cf_w1 rfl
theorem r_P_commit_72 {l0 l1 l2 l3 l4 : Option cf_AV} {st : List cf_AV} {w : cf_Wd} {Q : cf_Rs → Prop} : cf_wp T_P_commit (72, [l0, l1, l2, l3, l4], .inr 15 :: st, w) Q ↔ cf_wp T_P_commit (75, [l0, l1, l2, l3, l4], .inl (w 15 0) :: st, w) Q := cf_w1 rfl
theorem r_P_commit_75 {l0 l2 l3 l4 : Option cf_AV} {x : Int32} {st : List cf_AV} {w : cf_Wd} {Q : cf_Rs → Prop} : cf_wp T_P_commit (75, [l0, some (.inl x), l2, l3, l4], st, w) Q ↔ cf_wp T_P_commit (76, [l0, some (.inl x), l2, l3, l4], .inl x :: st, w) Q := cf_w1 rfl
theorem r_P_commit_76 {l0 l1 l2 l3 l4 : Option cf_AV} {x i : Int32} {st : List cf_AV} {w : cf_Wd} {Q : cf_Rs → Prop} : cf_wp T_P_commit (76, [l0, l1, l2, l3, l4], .inl x :: .inl i :: .inr 16 :: st, w) Q ↔ (cf_in i 14 = true ∧ cf_wp T_P_commit (77, [l0, l1, l2, l3, l4], st, (cf_wa w 16 (upd (w 16) i.toNatClampNeg x))) Q) := cf_wg rfl
theorem r_P_commit_77 {l1 l2 l3 l4 : Option cf_AV} {k : Nat} {st : List cf_AV} {w : cf_Wd} {Q : cf_Rs → Prop} : cf_wp T_P_commit (77, [some (.inr k), l1, l2, l3, l4], st, w) Q ↔ cf_wp T_P_commit (78, [some (.inr k), l1, l2, l3, l4], .inr k :: st, w) Q := cf_w1 rfl
theorem r_P_commit_78 {l0 l1 l2 l3 l4 : Option cf_AV} {st : List cf_AV} {w : cf_Wd} {Q : cf_Rs → Prop} : cf_wp T_P_commit (78, [l0, l1, l2, l3, l4], .inr 15 :: st, w) Q ↔ cf_wp T_P_commit (81, [l0, l1, l2, l3, l4], .inr 17 :: st, w) Q := cf_w1 rfl
theorem r_P_commit_81 {l1 l2 l3 l4 : Option cf_AV} {k : Nat} {st : List cf_AV} {w : cf_Wd} {Q : cf_Rs → Prop} : cf_wp T_P_commit (81, [some (.inr k), l1, l2, l3, l4], st, w) Q ↔ cf_wp T_P_commit (82, [some (.inr k), l1, l2, l3, l4], .inr k :: st, w) Q := cf_w1 rfl
theorem r_P_commit_82 {l0 l1 l2 l3 l4 : Option cf_AV} {st : List cf_AV} {w : cf_Wd} {Q : cf_Rs → Prop} : cf_wp T_P_commit (82, [l0, l1, l2, l3, l4], .inr 15 :: st, w) Q ↔ cf_wp T_P_commit (85, [l0, l1, l2, l3, l4], .inl (w 15 0) :: st, w) Q := cf_w1 rfl
theorem r_P_commit_85 {l0 l1 l3 l4 : Option cf_AV} {x : Int32} {st : List cf_AV} {w : cf_Wd} {Q : cf_Rs → Prop} : cf_wp T_P_commit (85, [l0, l1, some (.inl x), l3, l4], st, w) Q ↔ cf_wp T_P_commit (86, [l0, l1, some (.inl x), l3, l4], .inl x :: st, w) Q := cf_w1 rfl
theorem r_P_commit_86 {l0 l1 l2 l3 l4 : Option cf_AV} {x i : Int32} {st : List cf_AV} {w : cf_Wd} {Q : cf_Rs → Prop} : cf_wp T_P_commit (86, [l0, l1, l2, l3, l4], .inl x :: .inl i :: .inr 17 :: st, w) Q ↔ (cf_in i 14 = true ∧ cf_wp T_P_commit (87, [l0, l1, l2, l3, l4], st, (cf_wa w 17 (upd (w 17) i.toNatClampNeg x))) Q) := cf_wg rfl
theorem r_P_commit_87 {l1 l2 l3 l4 : Option cf_AV} {k : Nat} {st : List cf_AV} {w : cf_Wd} {Q : cf_Rs → Prop} : cf_wp T_P_commit (87, [some (.inr k), l1, l2, l3, l4], st, w) Q ↔ cf_wp T_P_commit (88, [some (.inr k), l1, l2, l3, l4], .inr k :: st, w) Q := cf_w1 rfl
theorem r_P_commit_88 {l0 l1 l2 l3 l4 : Option cf_AV} {st : List cf_AV} {w : cf_Wd} {Q : cf_Rs → Prop} : cf_wp T_P_commit (88, [l0, l1, l2, l3, l4], .inr 15 :: st, w) Q ↔ cf_wp T_P_commit (91, [l0, l1, l2, l3, l4], .inr 19 :: st, w) Q := cf_w1 rfl
theorem r_P_commit_91 {l1 l2 l3 l4 : Option cf_AV} {k : Nat} {st : List cf_AV} {w : cf_Wd} {Q : cf_Rs → Prop} : cf_wp T_P_commit (91, [some (.inr k), l1, l2, l3, l4], st, w) Q ↔ cf_wp T_P_commit (92, [some (.inr k), l1, l2, l3, l4], .inr k :: st, w) Q := cf_w1 rfl
theorem r_P_commit_92 {l0 l1 l2 l3 l4 : Option cf_AV} {st : List cf_AV} {w : cf_Wd} {Q : cf_Rs → Prop} : cf_wp T_P_commit (92, [l0, l1, l2, l3, l4], .inr 15 :: st, w) Q ↔ cf_wp T_P_commit (95, [l0, l1, l2, l3, l4], .inl (w 15 0) :: st, w) Q := cf_w1 rfl
theorem r_P_commit_95 {l0 l1 l2 l3 l4 : Option cf_AV} {st : List cf_AV} {w : cf_Wd} {Q : cf_Rs → Prop} : cf_wp T_P_commit (95, [l0, l1, l2, l3, l4], st, w) Q ↔ cf_wp T_P_commit (96, [l0, l1, l2, l3, l4], .inl 1 :: st, w) Q := cf_w1 rfl
theorem r_P_commit_96 {l1 l2 l3 l4 : Option cf_AV} {k : Nat} {st : List cf_AV} {w : cf_Wd} {Q : cf_Rs → Prop} : cf_wp T_P_commit (96, [some (.inr k), l1, l2, l3, l4], st, w) Q ↔ cf_wp T_P_commit (97, [some (.inr k), l1, l2, l3, l4], .inr k :: st, w) Q := cf_w1 rfl
theorem r_P_commit_97 {l0 l1 l2 l3 l4 : Option cf_AV} {st : List cf_AV} {w : cf_Wd} {Q : cf_Rs → Prop} : cf_wp T_P_commit (97, [l0, l1, l2, l3, l4], .inr 15 :: st, w) Q ↔ cf_wp T_P_commit (100, [l0, l1, l2, l3, l4], .inl (w 15 0) :: st, w) Q := cf_w1 rfl
theorem r_P_commit_100 {l0 l1 l2 l3 l4 : Option cf_AV} {x y : Int32} {st : List cf_AV} {w : cf_Wd} {Q : cf_Rs → Prop} : cf_wp T_P_commit (100, [l0, l1, l2, l3, l4], .inl y :: .inl x :: st, w) Q ↔ cf_wp T_P_commit (101, [l0, l1, l2, l3, l4], .inl (x <<< (y &&& 31)) :: st, w) Q := cf_w1 rfl
theorem r_P_commit_101 {l0 l2 l3 l4 : Option cf_AV} {x : Int32} {st : List cf_AV} {w : cf_Wd} {Q : cf_Rs → Prop} : cf_wp T_P_commit (101, [l0, some (.inl x), l2, l3, l4], st, w) Q ↔ cf_wp T_P_commit (102, [l0, some (.inl x), l2, l3, l4], .inl x :: st, w) Q := cf_w1 rfl
theorem r_P_commit_102 {l0 l1 l2 l3 l4 : Option cf_AV} {x : Int32} {st : List cf_AV} {w : cf_Wd} {Q : cf_Rs → Prop} : cf_wp T_P_commit (102, [l0, l1, l2, l3, l4], .inl x :: st, w) Q ↔ (if 0 ≤ x then cf_wp T_P_commit (109, [l0, l1, l2, l3, l4], st, w) Q else cf_wp T_P_commit (105, [l0, l1, l2, l3, l4], st, w) Q) := cf_wi rfl
theorem r_P_commit_105 {l0 l1 l2 l3 l4 : Option cf_AV} {st : List cf_AV} {w : cf_Wd} {Q : cf_Rs → Prop} : cf_wp T_P_commit (105, [l0, l1, l2, l3, l4], st, w) Q ↔ cf_wp T_P_commit (106, [l0, l1, l2, l3, l4], .inl 0 :: st, w) Q := cf_w1 rfl
theorem r_P_commit_106 {l0 l1 l2 l3 l4 : Option cf_AV} {st : List cf_AV} {w : cf_Wd} {Q : cf_Rs → Prop} : cf_wp T_P_commit (106, [l0, l1, l2, l3, l4], st, w) Q ↔ cf_wp T_P_commit (115, [l0, l1, l2, l3, l4], st, w) Q := cf_w1 rfl
theorem r_P_commit_109 {l1 l2 l3 l4 : Option cf_AV} {k : Nat} {st : List cf_AV} {w : cf_Wd} {Q : cf_Rs → Prop} : cf_wp T_P_commit (109, [some (.inr k), l1, l2, l3, l4], st, w) Q ↔ cf_wp T_P_commit (110, [some (.inr k), l1, l2, l3, l4], .inr k :: st, w) Q := cf_w1 rfl
theorem r_P_commit_110 {l0 l1 l2 l3 l4 : Option cf_AV} {st : List cf_AV} {w : cf_Wd} {Q : cf_Rs → Prop} : cf_wp T_P_commit (110, [l0, l1, l2, l3, l4], .inr 15 :: st, w) Q ↔ cf_wp T_P_commit (113, [l0, l1, l2, l3, l4], .inr 19 :: st, w) Q := cf_w1 rfl
theorem r_P_commit_113 {l0 l2 l3 l4 : Option cf_AV} {x : Int32} {st : List cf_AV} {w : cf_Wd} {Q : cf_Rs → Prop} : cf_wp T_P_commit (113, [l0, some (.inl x), l2, l3, l4], st, w) Q ↔ cf_wp T_P_commit (114, [l0, some (.inl x), l2, l3, l4], .inl x :: st, w) Q := cf_w1 rfl
theorem r_P_commit_114 {l0 l1 l2 l3 l4 : Option cf_AV} {i : Int32} {st : List cf_AV} {w : cf_Wd} {Q : cf_Rs → Prop} : cf_wp T_P_commit (114, [l0, l1, l2, l3, l4], .inl i :: .inr 19 :: st, w) Q ↔ (cf_in i 14 = true ∧ cf_wp T_P_commit (115, [l0, l1, l2, l3, l4], .inl (w 19 i.toNatClampNeg) :: st, w) Q) := cf_wg rfl
theorem r_P_commit_115 {l0 l1 l2 l3 l4 : Option cf_AV} {x y : Int32} {st : List cf_AV} {w : cf_Wd} {Q : cf_Rs → Prop} : cf_wp T_P_commit (115, [l0, l1, l2, l3, l4], .inl y :: .inl x :: st, w) Q ↔ cf_wp T_P_commit (116, [l0, l1, l2, l3, l4], .inl (x ||| y) :: st, w) Q := cf_w1 rfl
theorem r_P_commit_116 {l0 l1 l3 l4 : Option cf_AV} {x : Int32} {st : List cf_AV} {w : cf_Wd} {Q : cf_Rs → Prop} : cf_wp T_P_commit (116, [l0, l1, some (.inl x), l3, l4], st, w) Q ↔ cf_wp T_P_commit (117, [l0, l1, some (.inl x), l3, l4], .inl x :: st, w) Q := cf_w1 rfl
theorem r_P_commit_117 {l0 l1 l2 l3 l4 : Option cf_AV} {x : Int32} {st : List cf_AV} {w : cf_Wd} {Q : cf_Rs → Prop} : cf_wp T_P_commit (117, [l0, l1, l2, l3, l4], .inl x :: st, w) Q ↔ (if 0 ≤ x then cf_wp T_P_commit (124, [l0, l1, l2, l3, l4], st, w) Q else cf_wp T_P_commit (120, [l0, l1, l2, l3, l4], st, w) Q) := cf_wi rfl
theorem r_P_commit_120 {l0 l1 l2 l3 l4 : Option cf_AV} {st : List cf_AV} {w : cf_Wd} {Q : cf_Rs → Prop} : cf_wp T_P_commit (120, [l0, l1, l2, l3, l4], st, w) Q ↔ cf_wp T_P_commit (121, [l0, l1, l2, l3, l4], .inl 0 :: st, w) Q := cf_w1 rfl
theorem r_P_commit_121 {l0 l1 l2 l3 l4 : Option cf_AV} {st : List cf_AV} {w : cf_Wd} {Q : cf_Rs → Prop} : cf_wp T_P_commit (121, [l0, l1, l2, l3, l4], st, w) Q ↔ cf_wp T_P_commit (130, [l0, l1, l2, l3, l4], st, w) Q := cf_w1 rfl
theorem r_P_commit_124 {l1 l2 l3 l4 : Option cf_AV} {k : Nat} {st : List cf_AV} {w : cf_Wd} {Q : cf_Rs → Prop} : cf_wp T_P_commit (124, [some (.inr k), l1, l2, l3, l4], st, w) Q ↔ cf_wp T_P_commit (125, [some (.inr k), l1, l2, l3, l4], .inr k :: st, w) Q := cf_w1 rfl
theorem r_P_commit_125 {l0 l1 l2 l3 l4 : Option cf_AV} {st : List cf_AV} {w : cf_Wd} {Q : cf_Rs → Prop} : cf_wp T_P_commit (125, [l0, l1, l2, l3, l4], .inr 15 :: st, w) Q ↔ cf_wp T_P_commit (128, [l0, l1, l2, l3, l4], .inr 19 :: st, w) Q := cf_w1 rfl
theorem r_P_commit_128 {l0 l1 l3 l4 : Option cf_AV} {x : Int32} {st : List cf_AV} {w : cf_Wd} {Q : cf_Rs → Prop} : cf_wp T_P_commit (128, [l0, l1, some (.inl x), l3, l4], st, w) Q ↔ cf_wp T_P_commit (129, [l0, l1, some (.inl x), l3, l4], .inl x :: st, w) Q := cf_w1 rfl
theorem r_P_commit_129 {l0 l1 l2 l3 l4 : Option cf_AV} {i : Int32} {st : List cf_AV} {w : cf_Wd} {Q : cf_Rs → Prop} : cf_wp T_P_commit (129, [l0, l1, l2, l3, l4], .inl i :: .inr 19 :: st, w) Q ↔ (cf_in i 14 = true ∧ cf_wp T_P_commit (130, [l0, l1, l2, l3, l4], .inl (w 19 i.toNatClampNeg) :: st, w) Q) := cf_wg rfl
theorem r_P_commit_130 {l0 l1 l2 l3 l4 : Option cf_AV} {x y : Int32} {st : List cf_AV} {w : cf_Wd} {Q : cf_Rs → Prop} : cf_wp T_P_commit (130, [l0, l1, l2, l3, l4], .inl y :: .inl x :: st, w) Q ↔ cf_wp T_P_commit (131, [l0, l1, l2, l3, l4], .inl (x ||| y) :: st, w) Q := cf_w1 rfl
theorem r_P_commit_131 {l0 l1 l2 l3 l4 : Option cf_AV} {x i : Int32} {st : List cf_AV} {w : cf_Wd} {Q : cf_Rs → Prop} : cf_wp T_P_commit (131, [l0, l1, l2, l3, l4], .inl x :: .inl i :: .inr 19 :: st, w) Q ↔ (cf_in i 14 = true ∧ cf_wp T_P_commit (132, [l0, l1, l2, l3, l4], st, (cf_wa w 19 (upd (w 19) i.toNatClampNeg x))) Q) := cf_wg rfl
theorem r_P_commit_132 {l0 l1 l2 l3 l4 : Option cf_AV} {st : List cf_AV} {w : cf_Wd} {Q : cf_Rs → Prop} : cf_wp T_P_commit (132, [l0, l1, l2, l3, l4], st, w) Q ↔ cf_wp T_P_commit (133, [l0, l1, l2, l3, l4], .inl 0 :: st, w) Q := cf_w1 rfl
theorem r_P_commit_133 {l0 l1 l2 l3 l4 : Option cf_AV} {x : Int32} {st : List cf_AV} {w : cf_Wd} {Q : cf_Rs → Prop} : cf_wp T_P_commit (133, [l0, l1, l2, l3, l4], .inl x :: st, w) Q ↔ cf_wp T_P_commit (135, [l0, l1, l2, l3, some (.inl x)], st, w) Q := cf_w1 rfl
theorem r_P_commit_135 {l0 l1 l2 l3 : Option cf_AV} {x : Int32} {st : List cf_AV} {w : cf_Wd} {Q : cf_Rs → Prop} : cf_wp T_P_commit (135, [l0, l1, l2, l3, some (.inl x)], st, w) Q ↔ cf_wp T_P_commit (137, [l0, l1, l2, l3, some (.inl x)], .inl x :: st, w) Q := cf_w1 rfl
theorem r_P_commit_137 {l0 l1 l2 l3 l4 : Option cf_AV} {st : List cf_AV} {w : cf_Wd} {Q : cf_Rs → Prop} : cf_wp T_P_commit (137, [l0, l1, l2, l3, l4], st, w) Q ↔ cf_wp T_P_commit (139, [l0, l1, l2, l3, l4], .inl 8 :: st, w) Q := cf_w1 rfl
theorem r_P_commit_139 {l0 l1 l2 l3 l4 : Option cf_AV} {x y : Int32} {st : List cf_AV} {w : cf_Wd} {Q : cf_Rs → Prop} : cf_wp T_P_commit (139, [l0, l1, l2, l3, l4], .inl y :: .inl x :: st, w) Q ↔ (if y ≤ x then cf_wp T_P_commit (183, [l0, l1, l2, l3, l4], st, w) Q else cf_wp T_P_commit (142, [l0, l1, l2, l3, l4], st, w) Q) := cf_wi rfl
theorem r_P_commit_142 {l1 l2 l3 l4 : Option cf_AV} {k : Nat} {st : List cf_AV} {w : cf_Wd} {Q : cf_Rs → Prop} : cf_wp T_P_commit (142, [some (.inr k), l1, l2, l3, l4], st, w) Q ↔ cf_wp T_P_commit (143, [some (.inr k), l1, l2, l3, l4], .inr k :: st, w) Q := cf_w1 rfl
theorem r_P_commit_143 {l0 l1 l2 l3 l4 : Option cf_AV} {st : List cf_AV} {w : cf_Wd} {Q : cf_Rs → Prop} : cf_wp T_P_commit (143, [l0, l1, l2, l3, l4], .inr 15 :: st, w) Q ↔ cf_wp T_P_commit (146, [l0, l1, l2, l3, l4], .inr 18 :: st, w) Q := cf_w1 rfl
theorem r_P_commit_146 {l0 l1 l2 l3 l4 : Option cf_AV} {st : List cf_AV} {w : cf_Wd} {Q : cf_Rs → Prop} : cf_wp T_P_commit (146, [l0, l1, l2, l3, l4], st, w) Q ↔ cf_wp T_P_commit (148, [l0, l1, l2, l3, l4], .inl 8 :: st, w) Q := cf_w1 rfl
theorem r_P_commit_148 {l1 l2 l3 l4 : Option cf_AV} {k : Nat} {st : List cf_AV} {w : cf_Wd} {Q : cf_Rs → Prop} : cf_wp T_P_commit (148, [some (.inr k), l1, l2, l3, l4], st, w) Q ↔ cf_wp T_P_commit (149, [some (.inr k), l1, l2, l3, l4], .inr k :: st, w) Q := cf_w1 rfl
theorem r_P_commit_149 {l0 l1 l2 l3 l4 : Option cf_AV} {st : List cf_AV} {w : cf_Wd} {Q : cf_Rs → Prop} : cf_wp T_P_commit (149, [l0, l1, l2, l3, l4], .inr 15 :: st, w) Q ↔ cf_wp T_P_commit (152, [l0, l1, l2, l3, l4], .inl (w 15 0) :: st, w) Q := cf_w1 rfl
theorem r_P_commit_152 {l0 l1 l2 l3 l4 : Option cf_AV} {x y : Int32} {st : List cf_AV} {w : cf_Wd} {Q : cf_Rs → Prop} : cf_wp T_P_commit (152, [l0, l1, l2, l3, l4], .inl y :: .inl x :: st, w) Q ↔ cf_wp T_P_commit (153, [l0, l1, l2, l3, l4], .inl (x * y) :: st, w) Q := cf_w1 rfl
theorem r_P_commit_153 {l0 l1 l2 l3 : Option cf_AV} {x : Int32} {st : List cf_AV} {w : cf_Wd} {Q : cf_Rs → Prop} : cf_wp T_P_commit (153, [l0, l1, l2, l3, some (.inl x)], st, w) Q ↔ cf_wp T_P_commit (155, [l0, l1, l2, l3, some (.inl x)], .inl x :: st, w) Q := cf_w1 rfl
theorem r_P_commit_155 {l0 l1 l2 l3 l4 : Option cf_AV} {x y : Int32} {st : List cf_AV} {w : cf_Wd} {Q : cf_Rs → Prop} : cf_wp T_P_commit (155, [l0, l1, l2, l3, l4], .inl y :: .inl x :: st, w) Q ↔ cf_wp T_P_commit (156, [l0, l1, l2, l3, l4], .inl (x + y) :: st, w) Q := cf_w1 rfl
theorem r_P_commit_156 {l0 l2 l3 l4 : Option cf_AV} {x : Int32} {st : List cf_AV} {w : cf_Wd} {Q : cf_Rs → Prop} : cf_wp T_P_commit (156, [l0, some (.inl x), l2, l3, l4], st, w) Q ↔ cf_wp T_P_commit (157, [l0, some (.inl x), l2, l3, l4], .inl x :: st, w) Q := cf_w1 rfl
theorem r_P_commit_157 {l0 l1 l2 l3 l4 : Option cf_AV} {x : Int32} {st : List cf_AV} {w : cf_Wd} {Q : cf_Rs → Prop} : cf_wp T_P_commit (157, [l0, l1, l2, l3, l4], .inl x :: st, w) Q ↔ (if 0 ≤ x then cf_wp T_P_commit (164, [l0, l1, l2, l3, l4], st, w) Q else cf_wp T_P_commit (160, [l0, l1, l2, l3, l4], st, w) Q) := cf_wi rfl
theorem r_P_commit_160 {l0 l1 l2 l3 l4 : Option cf_AV} {st : List cf_AV} {w : cf_Wd} {Q : cf_Rs → Prop} : cf_wp T_P_commit (160, [l0, l1, l2, l3, l4], st, w) Q ↔ cf_wp T_P_commit (161, [l0, l1, l2, l3, l4], .inl 0 :: st, w) Q := cf_w1 rfl
theorem r_P_commit_161 {l0 l1 l2 l3 l4 : Option cf_AV} {st : List cf_AV} {w : cf_Wd} {Q : cf_Rs → Prop} : cf_wp T_P_commit (161, [l0, l1, l2, l3, l4], st, w) Q ↔ cf_wp T_P_commit (176, [l0, l1, l2, l3, l4], st, w) Q := cf_w1 rfl
theorem r_P_commit_164 {l1 l2 l3 l4 : Option cf_AV} {k : Nat} {st : List cf_AV} {w : cf_Wd} {Q : cf_Rs → Prop} : cf_wp T_P_commit (164, [some (.inr k), l1, l2, l3, l4], st, w) Q ↔ cf_wp T_P_commit (165, [some (.inr k), l1, l2, l3, l4], .inr k :: st, w) Q := cf_w1 rfl
theorem r_P_commit_165 {l0 l1 l2 l3 l4 : Option cf_AV} {st : List cf_AV} {w : cf_Wd} {Q : cf_Rs → Prop} : cf_wp T_P_commit (165, [l0, l1, l2, l3, l4], .inr 15 :: st, w) Q ↔ cf_wp T_P_commit (168, [l0, l1, l2, l3, l4], .inr 18 :: st, w) Q := cf_w1 rfl
theorem r_P_commit_168 {l0 l1 l2 l3 l4 : Option cf_AV} {st : List cf_AV} {w : cf_Wd} {Q : cf_Rs → Prop} : cf_wp T_P_commit (168, [l0, l1, l2, l3, l4], st, w) Q ↔ cf_wp T_P_commit (170, [l0, l1, l2, l3, l4], .inl 8 :: st, w) Q := cf_w1 rfl
theorem r_P_commit_170 {l0 l2 l3 l4 : Option cf_AV} {x : Int32} {st : List cf_AV} {w : cf_Wd} {Q : cf_Rs → Prop} : cf_wp T_P_commit (170, [l0, some (.inl x), l2, l3, l4], st, w) Q ↔ cf_wp T_P_commit (171, [l0, some (.inl x), l2, l3, l4], .inl x :: st, w) Q := cf_w1 rfl
theorem r_P_commit_171 {l0 l1 l2 l3 l4 : Option cf_AV} {x y : Int32} {st : List cf_AV} {w : cf_Wd} {Q : cf_Rs → Prop} : cf_wp T_P_commit (171, [l0, l1, l2, l3, l4], .inl y :: .inl x :: st, w) Q ↔ cf_wp T_P_commit (172, [l0, l1, l2, l3, l4], .inl (x * y) :: st, w) Q := cf_w1 rfl
theorem r_P_commit_172 {l0 l1 l2 l3 : Option cf_AV} {x : Int32} {st : List cf_AV} {w : cf_Wd} {Q : cf_Rs → Prop} : cf_wp T_P_commit (172, [l0, l1, l2, l3, some (.inl x)], st, w) Q ↔ cf_wp T_P_commit (174, [l0, l1, l2, l3, some (.inl x)], .inl x :: st, w) Q := cf_w1 rfl
theorem r_P_commit_174 {l0 l1 l2 l3 l4 : Option cf_AV} {x y : Int32} {st : List cf_AV} {w : cf_Wd} {Q : cf_Rs → Prop} : cf_wp T_P_commit (174, [l0, l1, l2, l3, l4], .inl y :: .inl x :: st, w) Q ↔ cf_wp T_P_commit (175, [l0, l1, l2, l3, l4], .inl (x + y) :: st, w) Q := cf_w1 rfl
theorem r_P_commit_175 {l0 l1 l2 l3 l4 : Option cf_AV} {i : Int32} {st : List cf_AV} {w : cf_Wd} {Q : cf_Rs → Prop} : cf_wp T_P_commit (175, [l0, l1, l2, l3, l4], .inl i :: .inr 18 :: st, w) Q ↔ (cf_in i 112 = true ∧ cf_wp T_P_commit (176, [l0, l1, l2, l3, l4], .inl (w 18 i.toNatClampNeg) :: st, w) Q) := cf_wg rfl
theorem r_P_commit_176 {l0 l1 l2 l3 l4 : Option cf_AV} {x i : Int32} {st : List cf_AV} {w : cf_Wd} {Q : cf_Rs → Prop} : cf_wp T_P_commit (176, [l0, l1, l2, l3, l4], .inl x :: .inl i :: .inr 18 :: st, w) Q ↔ (cf_in i 112 = true ∧ cf_wp T_P_commit (177, [l0, l1, l2, l3, l4], st, (cf_wa w 18 (upd (w 18) i.toNatClampNeg x))) Q) := cf_wg rfl
theorem r_P_commit_177 {l0 l1 l2 l3 : Option cf_AV} {x : Int32} {st : List cf_AV} {w : cf_Wd} {Q : cf_Rs → Prop} : cf_wp T_P_commit (177, [l0, l1, l2, l3, some (.inl x)], st, w) Q ↔ cf_wp T_P_commit (180, [l0, l1, l2, l3, some (.inl (x + 1))], st, w) Q := cf_w1 rfl
theorem r_P_commit_180 {l0 l1 l2 l3 l4 : Option cf_AV} {st : List cf_AV} {w : cf_Wd} {Q : cf_Rs → Prop} : cf_wp T_P_commit (180, [l0, l1, l2, l3, l4], st, w) Q ↔ cf_wp T_P_commit (135, [l0, l1, l2, l3, l4], st, w) Q := cf_w1 rfl
theorem r_P_commit_183 {l1 l2 l3 l4 : Option cf_AV} {k : Nat} {st : List cf_AV} {w : cf_Wd} {Q : cf_Rs → Prop} : cf_wp T_P_commit (183, [some (.inr k), l1, l2, l3, l4], st, w) Q ↔ cf_wp T_P_commit (184, [some (.inr k), l1, l2, l3, l4], .inr k :: st, w) Q := cf_w1 rfl
theorem r_P_commit_184 {l1 l2 l3 l4 : Option cf_AV} {k : Nat} {st : List cf_AV} {w : cf_Wd} {Q : cf_Rs → Prop} : cf_wp T_P_commit (184, [some (.inr k), l1, l2, l3, l4], st, w) Q ↔ cf_wp T_P_commit (185, [some (.inr k), l1, l2, l3, l4], .inr k :: st, w) Q := cf_w1 rfl
theorem r_P_commit_185 {l0 l1 l2 l3 l4 : Option cf_AV} {st : List cf_AV} {w : cf_Wd} {Q : cf_Rs → Prop} : cf_wp T_P_commit (185, [l0, l1, l2, l3, l4], .inr 15 :: st, w) Q ↔ cf_wp T_P_commit (188, [l0, l1, l2, l3, l4], .inl (w 15 0) :: st, w) Q := cf_w1 rfl
theorem r_P_commit_188 {l0 l1 l2 l3 l4 : Option cf_AV} {st : List cf_AV} {w : cf_Wd} {Q : cf_Rs → Prop} : cf_wp T_P_commit (188, [l0, l1, l2, l3, l4], st, w) Q ↔ cf_wp T_P_commit (189, [l0, l1, l2, l3, l4], .inl 1 :: st, w) Q := cf_w1 rfl
theorem r_P_commit_189 {l0 l1 l2 l3 l4 : Option cf_AV} {x y : Int32} {st : List cf_AV} {w : cf_Wd} {Q : cf_Rs → Prop} : cf_wp T_P_commit (189, [l0, l1, l2, l3, l4], .inl y :: .inl x :: st, w) Q ↔ cf_wp T_P_commit (190, [l0, l1, l2, l3, l4], .inl (x + y) :: st, w) Q := cf_w1 rfl
theorem r_P_commit_190 {l0 l1 l2 l3 l4 : Option cf_AV} {x : Int32} {st : List cf_AV} {w : cf_Wd} {Q : cf_Rs → Prop} : cf_wp T_P_commit (190, [l0, l1, l2, l3, l4], .inl x :: .inr 15 :: st, w) Q ↔ cf_wp T_P_commit (193, [l0, l1, l2, l3, l4], st, (cf_wa w 15 (upd (w 15) 0 x))) Q := cf_w1 rfl
theorem r_P_commit_193 {l1 l2 l3 l4 : Option cf_AV} {k : Nat} {st : List cf_AV} {w : cf_Wd} {Q : cf_Rs → Prop} : cf_wp T_P_commit (193, [some (.inr k), l1, l2, l3, l4], st, w) Q ↔ cf_wp T_P_commit (194, [some (.inr k), l1, l2, l3, l4], .inr k :: st, w) Q := cf_w1 rfl
theorem r_P_commit_194 {l0 l1 l2 l3 l4 : Option cf_AV} {st : List cf_AV} {w : cf_Wd} {Q : cf_Rs → Prop} : cf_wp T_P_commit (194, [l0, l1, l2, l3, l4], .inr 15 :: st, w) Q ↔ cf_wp T_P_commit (197, [l0, l1, l2, l3, l4], .inl (w 15 0) :: st, w) Q := cf_w1 rfl
theorem r_P_commit_197 {l0 l1 l2 l3 l4 : Option cf_AV} {st : List cf_AV} {w : cf_Wd} {Q : cf_Rs → Prop} : cf_wp T_P_commit (197, [l0, l1, l2, l3, l4], st, w) Q ↔ cf_wp T_P_commit (198, [l0, l1, l2, l3, l4], .inl 1 :: st, w) Q := cf_w1 rfl
theorem r_P_commit_198 {l0 l1 l2 l3 l4 : Option cf_AV} {x y : Int32} {st : List cf_AV} {w : cf_Wd} {Q : cf_Rs → Prop} : cf_wp T_P_commit (198, [l0, l1, l2, l3, l4], .inl y :: .inl x :: st, w) Q ↔ cf_wp T_P_commit (199, [l0, l1, l2, l3, l4], .inl (x - y) :: st, w) Q := cf_w1 rfl
theorem r_P_commit_199 {l0 l1 l2 l3 l4 : Option cf_AV} {x : Int32} {w : cf_Wd} {P : Int32 → cf_Wd → Prop} : cf_wp T_P_commit (199, [l0, l1, l2, l3, l4], [.inl x], w) (cf_qi P) ↔ P x w := Iff.trans (cf_wr (q := (some (.inl x), w)) rfl) Iff.rfl
theorem e_P_commit {a1 a2 : Int32} {w : cf_Wd} {P : Int32 → cf_Wd → Prop} (h : cf_wp T_P_commit (0, [some (.inr 15), some (.inl a1), some (.inl a2), none, none], [], w) (cf_qi P)) : ∃ x w1, F_P_commit [.inr 15, .inl a1, .inl a2] w = some (some (.inl x), w1) ∧ P x w1 := cf_ei rfl (Nat.le_of_ble_eq_true rfl) h
noncomputable def T_P_write (pc : Nat) : cf_Rw := bif Nat.ble pc 56 then
 (bif Nat.ble pc 27 then
  (bif Nat.ble pc 9 then
   (bif Nat.ble pc 3 then
    (bif Nat.ble pc 0 then
     (bif Nat.beq pc 0 then cf_const 0 1 else cf_stuck)
     else
     (bif Nat.ble pc 1 then
      (bif Nat.beq pc 1 then cf_istore 4 3 else cf_stuck)
      else
      (bif Nat.beq pc 3 then cf_const 0 4 else cf_stuck)))
    else
    (bif Nat.ble pc 6 then
     (bif Nat.ble pc 4 then
      (bif Nat.beq pc 4 then cf_istore 5 6 else cf_stuck)
      else
      (bif Nat.beq pc 6 then cf_iload 5 8 else cf_stuck))
     else
     (bif Nat.ble pc 8 then
      (bif Nat.beq pc 8 then cf_aload 0 9 else cf_stuck)
      else
      (bif Nat.beq pc 9 then cf_get 5 0 12 else cf_stuck))))
   else
   (bif Nat.ble pc 20 then
    (bif Nat.ble pc 15 then
     (bif Nat.ble pc 12 then
      (bif Nat.beq pc 12 then cf_icge 55 15 else cf_stuck)
      else
      (bif Nat.beq pc 15 then cf_iload 4 17 else cf_stuck))
     else
     (bif Nat.ble pc 17 then
      (bif Nat.beq pc 17 then cf_ifne 42 20 else cf_stuck)
      else
      (bif Nat.beq pc 20 then cf_aload 0 21 else cf_stuck)))
    else
    (bif Nat.ble pc 24 then
     (bif Nat.ble pc 21 then
      (bif Nat.beq pc 21 then cf_get 5 1 24 else cf_stuck)
      else
      (bif Nat.beq pc 24 then cf_iload 5 26 else cf_stuck))
     else
     (bif Nat.ble pc 26 then
      (bif Nat.beq pc 26 then cf_iald 27 else cf_stuck)
      else
      (bif Nat.beq pc 27 then cf_iload 1 28 else cf_stuck)))))
  else
  (bif Nat.ble pc 39 then
   (bif Nat.ble pc 32 then
    (bif Nat.ble pc 28 then
     (bif Nat.beq pc 28 then cf_iceq 42 31 else cf_stuck)
     else
     (bif Nat.ble pc 31 then
      (bif Nat.beq pc 31 then cf_aload 0 32 else cf_stuck)
      else
      (bif Nat.beq pc 32 then cf_get 5 2 35 else cf_stuck)))
    else
    (bif Nat.ble pc 37 then
     (bif Nat.ble pc 35 then
      (bif Nat.beq pc 35 then cf_iload 5 37 else cf_stuck)
      else
      (bif Nat.beq pc 37 then cf_iald 38 else cf_stuck))
     else
     (bif Nat.ble pc 38 then
      (bif Nat.beq pc 38 then cf_iload 1 39 else cf_stuck)
      else
      (bif Nat.beq pc 39 then cf_icne 46 42 else cf_stuck))))
   else
   (bif Nat.ble pc 47 then
    (bif Nat.ble pc 43 then
     (bif Nat.ble pc 42 then
      (bif Nat.beq pc 42 then cf_const 1 43 else cf_stuck)
      else
      (bif Nat.beq pc 43 then cf_goto 47 else cf_stuck))
     else
     (bif Nat.ble pc 46 then
      (bif Nat.beq pc 46 then cf_const 0 47 else cf_stuck)
      else
      (bif Nat.beq pc 47 then cf_istore 4 49 else cf_stuck)))
    else
    (bif Nat.ble pc 52 then
     (bif Nat.ble pc 49 then
      (bif Nat.beq pc 49 then cf_iinc 5 1 52 else cf_stuck)
      else
      (bif Nat.beq pc 52 then cf_goto 6 else cf_stuck))
     else
     (bif Nat.ble pc 55 then
      (bif Nat.beq pc 55 then cf_aload 0 56 else cf_stuck)
      else
      (bif Nat.beq pc 56 then cf_iload 1 57 else cf_stuck))))))
 else
 (bif Nat.ble pc 89 then
  (bif Nat.ble pc 70 then
   (bif Nat.ble pc 63 then
    (bif Nat.ble pc 57 then
     (bif Nat.beq pc 57 then cf_call 2 F_P_isCommit 60 else cf_stuck)
     else
     (bif Nat.ble pc 60 then
      (bif Nat.beq pc 60 then cf_ifeq 96 63 else cf_stuck)
      else
      (bif Nat.beq pc 63 then cf_iload 2 64 else cf_stuck)))
    else
    (bif Nat.ble pc 65 then
     (bif Nat.ble pc 64 then
      (bif Nat.beq pc 64 then cf_const 0 65 else cf_stuck)
      else
      (bif Nat.beq pc 65 then cf_const 7 67 else cf_stuck))
     else
     (bif Nat.ble pc 67 then
      (bif Nat.beq pc 67 then cf_call 3 F_P_in 70 else cf_stuck)
      else
      (bif Nat.beq pc 70 then cf_ifeq 96 73 else cf_stuck))))
   else
   (bif Nat.ble pc 78 then
    (bif Nat.ble pc 74 then
     (bif Nat.ble pc 73 then
      (bif Nat.beq pc 73 then cf_iload 3 74 else cf_stuck)
      else
      (bif Nat.beq pc 74 then cf_const 0 75 else cf_stuck))
     else
     (bif Nat.ble pc 75 then
      (bif Nat.beq pc 75 then cf_const 999 78 else cf_stuck)
      else
      (bif Nat.beq pc 78 then cf_call 3 F_P_in 81 else cf_stuck)))
    else
    (bif Nat.ble pc 84 then
     (bif Nat.ble pc 81 then
      (bif Nat.beq pc 81 then cf_ifeq 96 84 else cf_stuck)
      else
      (bif Nat.beq pc 84 then cf_iload 4 86 else cf_stuck))
     else
     (bif Nat.ble pc 86 then
      (bif Nat.beq pc 86 then cf_ifne 96 89 else cf_stuck)
      else
      (bif Nat.beq pc 89 then cf_aload 0 90 else cf_stuck)))))
  else
  (bif Nat.ble pc 102 then
   (bif Nat.ble pc 96 then
    (bif Nat.ble pc 90 then
     (bif Nat.beq pc 90 then cf_get 5 5 93 else cf_stuck)
     else
     (bif Nat.ble pc 93 then
      (bif Nat.beq pc 93 then cf_ifeq 98 96 else cf_stuck)
      else
      (bif Nat.beq pc 96 then cf_const 0 97 else cf_stuck)))
    else
    (bif Nat.ble pc 98 then
     (bif Nat.ble pc 97 then
      (bif Nat.beq pc 97 then cf_iret else cf_stuck)
      else
      (bif Nat.beq pc 98 then cf_aload 0 99 else cf_stuck))
     else
     (bif Nat.ble pc 99 then
      (bif Nat.beq pc 99 then cf_get 5 3 102 else cf_stuck)
      else
      (bif Nat.beq pc 102 then cf_const 8 104 else cf_stuck))))
   else
   (bif Nat.ble pc 107 then
    (bif Nat.ble pc 105 then
     (bif Nat.ble pc 104 then
      (bif Nat.beq pc 104 then cf_iload 1 105 else cf_stuck)
      else
      (bif Nat.beq pc 105 then cf_bin (fun x y => x * y) 106 else cf_stuck))
     else
     (bif Nat.ble pc 106 then
      (bif Nat.beq pc 106 then cf_iload 2 107 else cf_stuck)
      else
      (bif Nat.beq pc 107 then cf_bin (fun x y => x + y) 108 else cf_stuck)))
    else
    (bif Nat.ble pc 109 then
     (bif Nat.ble pc 108 then
      (bif Nat.beq pc 108 then cf_iload 3 109 else cf_stuck)
      else
      (bif Nat.beq pc 109 then cf_iast 110 else cf_stuck))
     else
     (bif Nat.ble pc 110 then
      (bif Nat.beq pc 110 then cf_const 1 111 else cf_stuck)
      else
      (bif Nat.beq pc 111 then cf_iret else cf_stuck))))))
noncomputable def F_P_write : List cf_AV → cf_Wd → Option cf_Rs := cf_F T_P_write 6 (some .boolean) (cf_shV 15 3)
theorem r_P_write_0 {l0 l1 l2 l3 l4 l5 : Option cf_AV} {st : List cf_AV} {w : cf_Wd} {Q : cf_Rs → Prop} : cf_wp T_P_write (0, [l0, l1, l2, l3, l4, l5], st, w) Q ↔ cf_wp T_P_write (1, [l0, l1, l2, l3, l4, l5], .inl 0 :: st, w) Q := cf_w1 rfl
theorem r_P_write_1 {l0 l1 l2 l3 l4 l5 : Option cf_AV} {x : Int32} {st : List cf_AV} {w : cf_Wd} {Q : cf_Rs → Prop} : cf_wp T_P_write (1, [l0, l1, l2, l3, l4, l5], .inl x :: st, w) Q ↔ cf_wp T_P_write (3, [l0, l1, l2, l3, some (.inl x), l5], st, w) Q := cf_w1 rfl
theorem r_P_write_3 {l0 l1 l2 l3 l4 l5 : Option cf_AV} {st : List cf_AV} {w : cf_Wd} {Q : cf_Rs → Prop} : cf_wp T_P_write (3, [l0, l1, l2, l3, l4, l5], st, w) Q ↔ cf_wp T_P_write (4, [l0, l1, l2, l3, l4, l5], .inl 0 :: st, w) Q := cf_w1 rfl
theorem r_P_write_4 {l0 l1 l2 l3 l4 l5 : Option cf_AV} {x : Int32} {st : List cf_AV} {w : cf_Wd} {Q : cf_Rs → Prop} : cf_wp T_P_write (4, [l0, l1, l2, l3, l4, l5], .inl x :: st, w) Q ↔ cf_wp T_P_write (6, [l0, l1, l2, l3, l4, some (.inl x)], st, w) Q := cf_w1 rfl
theorem r_P_write_6 {l0 l1 l2 l3 l4 : Option cf_AV} {x : Int32} {st : List cf_AV} {w : cf_Wd} {Q : cf_Rs → Prop} : cf_wp T_P_write (6, [l0, l1, l2, l3, l4, some (.inl x)], st, w) Q ↔ cf_wp T_P_write (8, [l0, l1, l2, l3, l4, some (.inl x)], .inl x :: st, w) Q := cf_w1 rfl
theorem r_P_write_8 {l1 l2 l3 l4 l5 : Option cf_AV} {k : Nat} {st : List cf_AV} {w : cf_Wd} {Q : cf_Rs → Prop} : cf_wp T_P_write (8, [some (.inr k), l1, l2, l3, l4, l5], st, w) Q ↔ cf_wp T_P_write (9, [some (.inr k), l1, l2, l3, l4, l5], .inr k :: st, w) Q := cf_w1 rfl
theorem r_P_write_9 {l0 l1 l2 l3 l4 l5 : Option cf_AV} {st : List cf_AV} {w : cf_Wd} {Q : cf_Rs → Prop} : cf_wp T_P_write (9, [l0, l1, l2, l3, l4, l5], .inr 15 :: st, w) Q ↔ cf_wp T_P_write (12, [l0, l1, l2, l3, l4, l5], .inl (w 15 0) :: st, w) Q := cf_w1 rfl
theorem r_P_write_12 {l0 l1 l2 l3 l4 l5 : Option cf_AV} {x y : Int32} {st : List cf_AV} {w : cf_Wd} {Q : cf_Rs → Prop} : cf_wp T_P_write (12, [l0, l1, l2, l3, l4, l5], .inl y :: .inl x :: st, w) Q ↔ (if y ≤ x then cf_wp T_P_write (55, [l0, l1, l2, l3, l4, l5], st, w) Q else cf_wp T_P_write (15, [l0, l1, l2, l3, l4, l5], st, w) Q) := cf_wi rfl
theorem r_P_write_15 {l0 l1 l2 l3 l5 : Option cf_AV} {x : Int32} {st : List cf_AV} {w : cf_Wd} {Q : cf_Rs → Prop} : cf_wp T_P_write (15, [l0, l1, l2, l3, some (.inl x), l5], st, w) Q ↔ cf_wp T_P_write (17, [l0, l1, l2, l3, some (.inl x), l5], .inl x :: st, w) Q := cf_w1 rfl
theorem r_P_write_17 {l0 l1 l2 l3 l4 l5 : Option cf_AV} {x : Int32} {st : List cf_AV} {w : cf_Wd} {Q : cf_Rs → Prop} : cf_wp T_P_write (17, [l0, l1, l2, l3, l4, l5], .inl x :: st, w) Q ↔ (if ¬ x = 0 then cf_wp T_P_write (42, [l0, l1, l2, l3, l4, l5], st, w) Q else cf_wp T_P_write (20, [l0, l1, l2, l3, l4, l5], st, w) Q) := cf_wi rfl
theorem r_P_write_20 {l1 l2 l3 l4 l5 : Option cf_AV} {k : Nat} {st : List cf_AV} {w : cf_Wd} {Q : cf_Rs → Prop} : cf_wp T_P_write (20, [some (.inr k), l1, l2, l3, l4, l5], st, w) Q ↔ cf_wp T_P_write (21, [some (.inr k), l1, l2, l3, l4, l5], .inr k :: st, w) Q := cf_w1 rfl
theorem r_P_write_21 {l0 l1 l2 l3 l4 l5 : Option cf_AV} {st : List cf_AV} {w : cf_Wd} {Q : cf_Rs → Prop} : cf_wp T_P_write (21, [l0, l1, l2, l3, l4, l5], .inr 15 :: st, w) Q ↔ cf_wp T_P_write (24, [l0, l1, l2, l3, l4, l5], .inr 16 :: st, w) Q := cf_w1 rfl
theorem r_P_write_24 {l0 l1 l2 l3 l4 : Option cf_AV} {x : Int32} {st : List cf_AV} {w : cf_Wd} {Q : cf_Rs → Prop} : cf_wp T_P_write (24, [l0, l1, l2, l3, l4, some (.inl x)], st, w) Q ↔ cf_wp T_P_write (26, [l0, l1, l2, l3, l4, some (.inl x)], .inl x :: st, w) Q := cf_w1 rfl
theorem r_P_write_26 {l0 l1 l2 l3 l4 l5 : Option cf_AV} {i : Int32} {st : List cf_AV} {w : cf_Wd} {Q : cf_Rs → Prop} : cf_wp T_P_write (26, [l0, l1, l2, l3, l4, l5], .inl i :: .inr 16 :: st, w) Q ↔ (cf_in i 14 = true ∧ cf_wp T_P_write (27, [l0, l1, l2, l3, l4, l5], .inl (w 16 i.toNatClampNeg) :: st, w) Q) := cf_wg rfl
theorem r_P_write_27 {l0 l2 l3 l4 l5 : Option cf_AV} {x : Int32} {st : List cf_AV} {w : cf_Wd} {Q : cf_Rs → Prop} : cf_wp T_P_write (27, [l0, some (.inl x), l2, l3, l4, l5], st, w) Q ↔ cf_wp T_P_write (28, [l0, some (.inl x), l2, l3, l4, l5], .inl x :: st, w) Q := cf_w1 rfl
theorem r_P_write_28 {l0 l1 l2 l3 l4 l5 : Option cf_AV} {x y : Int32} {st : List cf_AV} {w : cf_Wd} {Q : cf_Rs → Prop} : cf_wp T_P_write (28, [l0, l1, l2, l3, l4, l5], .inl y :: .inl x :: st, w) Q ↔ (if x = y then cf_wp T_P_write (42, [l0, l1, l2, l3, l4, l5], st, w) Q else cf_wp T_P_write (31, [l0, l1, l2, l3, l4, l5], st, w) Q) := cf_wi rfl
theorem r_P_write_31 {l1 l2 l3 l4 l5 : Option cf_AV} {k : Nat} {st : List cf_AV} {w : cf_Wd} {Q : cf_Rs → Prop} : cf_wp T_P_write (31, [some (.inr k), l1, l2, l3, l4, l5], st, w) Q ↔ cf_wp T_P_write (32, [some (.inr k), l1, l2, l3, l4, l5], .inr k :: st, w) Q := cf_w1 rfl
theorem r_P_write_32 {l0 l1 l2 l3 l4 l5 : Option cf_AV} {st : List cf_AV} {w : cf_Wd} {Q : cf_Rs → Prop} : cf_wp T_P_write (32, [l0, l1, l2, l3, l4, l5], .inr 15 :: st, w) Q ↔ cf_wp T_P_write (35, [l0, l1, l2, l3, l4, l5], .inr 17 :: st, w) Q := cf_w1 rfl
theorem r_P_write_35 {l0 l1 l2 l3 l4 : Option cf_AV} {x : Int32} {st : List cf_AV} {w : cf_Wd} {Q : cf_Rs → Prop} : cf_wp T_P_write (35, [l0, l1, l2, l3, l4, some (.inl x)], st, w) Q ↔ cf_wp T_P_write (37, [l0, l1, l2, l3, l4, some (.inl x)], .inl x :: st, w) Q := cf_w1 rfl
theorem r_P_write_37 {l0 l1 l2 l3 l4 l5 : Option cf_AV} {i : Int32} {st : List cf_AV} {w : cf_Wd} {Q : cf_Rs → Prop} : cf_wp T_P_write (37, [l0, l1, l2, l3, l4, l5], .inl i :: .inr 17 :: st, w) Q ↔ (cf_in i 14 = true ∧ cf_wp T_P_write (38, [l0, l1, l2, l3, l4, l5], .inl (w 17 i.toNatClampNeg) :: st, w) Q) := cf_wg rfl
theorem r_P_write_38 {l0 l2 l3 l4 l5 : Option cf_AV} {x : Int32} {st : List cf_AV} {w : cf_Wd} {Q : cf_Rs → Prop} : cf_wp T_P_write (38, [l0, some (.inl x), l2, l3, l4, l5], st, w) Q ↔ cf_wp T_P_write (39, [l0, some (.inl x), l2, l3, l4, l5], .inl x :: st, w) Q := cf_w1 rfl
theorem r_P_write_39 {l0 l1 l2 l3 l4 l5 : Option cf_AV} {x y : Int32} {st : List cf_AV} {w : cf_Wd} {Q : cf_Rs → Prop} : cf_wp T_P_write (39, [l0, l1, l2, l3, l4, l5], .inl y :: .inl x :: st, w) Q ↔ (if ¬ x = y then cf_wp T_P_write (46, [l0, l1, l2, l3, l4, l5], st, w) Q else cf_wp T_P_write (42, [l0, l1, l2, l3, l4, l5], st, w) Q) := cf_wi rfl
theorem r_P_write_42 {l0 l1 l2 l3 l4 l5 : Option cf_AV} {st : List cf_AV} {w : cf_Wd} {Q : cf_Rs → Prop} : cf_wp T_P_write (42, [l0, l1, l2, l3, l4, l5], st, w) Q ↔ cf_wp T_P_write (43, [l0, l1, l2, l3, l4, l5], .inl 1 :: st, w) Q := cf_w1 rfl
theorem r_P_write_43 {l0 l1 l2 l3 l4 l5 : Option cf_AV} {st : List cf_AV} {w : cf_Wd} {Q : cf_Rs → Prop} : cf_wp T_P_write (43, [l0, l1, l2, l3, l4, l5], st, w) Q ↔ cf_wp T_P_write (47, [l0, l1, l2, l3, l4, l5], st, w) Q := cf_w1 rfl
theorem r_P_write_46 {l0 l1 l2 l3 l4 l5 : Option cf_AV} {st : List cf_AV} {w : cf_Wd} {Q : cf_Rs → Prop} : cf_wp T_P_write (46, [l0, l1, l2, l3, l4, l5], st, w) Q ↔ cf_wp T_P_write (47, [l0, l1, l2, l3, l4, l5], .inl 0 :: st, w) Q := cf_w1 rfl
theorem r_P_write_47 {l0 l1 l2 l3 l4 l5 : Option cf_AV} {x : Int32} {st : List cf_AV} {w : cf_Wd} {Q : cf_Rs → Prop} : cf_wp T_P_write (47, [l0, l1, l2, l3, l4, l5], .inl x :: st, w) Q ↔ cf_wp T_P_write (49, [l0, l1, l2, l3, some (.inl x), l5], st, w) Q := cf_w1 rfl
theorem r_P_write_49 {l0 l1 l2 l3 l4 : Option cf_AV} {x : Int32} {st : List cf_AV} {w : cf_Wd} {Q : cf_Rs → Prop} : cf_wp T_P_write (49, [l0, l1, l2, l3, l4, some (.inl x)], st, w) Q ↔ cf_wp T_P_write (52, [l0, l1, l2, l3, l4, some (.inl (x + 1))], st, w) Q := cf_w1 rfl
theorem r_P_write_52 {l0 l1 l2 l3 l4 l5 : Option cf_AV} {st : List cf_AV} {w : cf_Wd} {Q : cf_Rs → Prop} : cf_wp T_P_write (52, [l0, l1, l2, l3, l4, l5], st, w) Q ↔ cf_wp T_P_write (6, [l0, l1, l2, l3, l4, l5], st, w) Q := cf_w1 rfl
theorem r_P_write_55 {l1 l2 l3 l4 l5 : Option cf_AV} {k : Nat} {st : List cf_AV} {w : cf_Wd} {Q : cf_Rs → Prop} : cf_wp T_P_write (55, [some (.inr k), l1, l2, l3, l4, l5], st, w) Q ↔ cf_wp T_P_write (56, [some (.inr k), l1, l2, l3, l4, l5], .inr k :: st, w) Q := cf_w1 rfl
theorem r_P_write_56 {l0 l2 l3 l4 l5 : Option cf_AV} {x : Int32} {st : List cf_AV} {w : cf_Wd} {Q : cf_Rs → Prop} : cf_wp T_P_write (56, [l0, some (.inl x), l2, l3, l4, l5], st, w) Q ↔ cf_wp T_P_write (57, [l0, some (.inl x), l2, l3, l4, l5], .inl x :: st, w) Q := cf_w1 rfl
theorem r_P_write_57 {l0 l1 l2 l3 l4 l5 : Option cf_AV} {a1 : Int32} {w : cf_Wd} {Q : cf_Rs → Prop} : cf_wp T_P_write (57, [l0, l1, l2, l3, l4, l5], [.inl a1, .inr 15], w) Q ↔ ∃ x w1, F_P_isCommit [.inr 15, .inl a1] w = some (some (.inl x), w1) ∧ cf_wp T_P_write (60, [l0, l1, l2, l3, l4, l5], [.inl x], w1) Q := cf_wci (n := 2) (F := F_P_isCommit) (nx := 60) rfl rfl cf_F_b
theorem c_P_write_57 {l0 l1 l2 l3 l4 l5 : Option cf_AV} {a1 : Int32} {x1 : Int32} {w1 : cf_Wd} {w : cf_Wd} {Q : cf_Rs → Prop} (hs : F_P_isCommit [.inr 15, .inl a1] w = some (some (.inl x1), w1)) : cf_wp T_P_write (57, [l0, l1, l2, l3, l4, l5], [.inl a1, .inr 15], w) Q ↔ cf_wp T_P_write (60, [l0, l1, l2, l3, l4, l5], [.inl x1], w1) Q := r_P_write_57.trans (cf_xi hs)
theorem r_P_write_60 {l0 l1 l2 l3 l4 l5 : Option cf_AV} {x : Int32} {st : List cf_AV} {w : cf_Wd} {Q : cf_Rs → Prop} : cf_wp T_P_write (60, [l0, l1, l2, l3, l4, l5], .inl x :: st, w) Q ↔ (if x = 0 then cf_wp T_P_write (96, [l0, l1, l2, l3, l4, l5], st, w) Q else cf_wp T_P_write (63, [l0, l1, l2, l3, l4, l5], st, w) Q) := cf_wi rfl
theorem r_P_write_63 {l0 l1 l3 l4 l5 : Option cf_AV} {x : Int32} {st : List cf_AV} {w : cf_Wd} {Q : cf_Rs → Prop} : cf_wp T_P_write (63, [l0, l1, some (.inl x), l3, l4, l5], st, w) Q ↔ cf_wp T_P_write (64, [l0, l1, some (.inl x), l3, l4, l5], .inl x :: st, w) Q := cf_w1 rfl
theorem r_P_write_64 {l0 l1 l2 l3 l4 l5 : Option cf_AV} {st : List cf_AV} {w : cf_Wd} {Q : cf_Rs → Prop} : cf_wp T_P_write (64, [l0, l1, l2, l3, l4, l5], st, w) Q ↔ cf_wp T_P_write (65, [l0, l1, l2, l3, l4, l5], .inl 0 :: st, w) Q := cf_w1 rfl
theorem r_P_write_65 {l0 l1 l2 l3 l4 l5 : Option cf_AV} {st : List cf_AV} {w : cf_Wd} {Q : cf_Rs → Prop} : cf_wp T_P_write (65, [l0, l1, l2, l3, l4, l5], st, w) Q ↔ cf_wp T_P_write (67, [l0, l1, l2, l3, l4, l5], .inl 7 :: st, w) Q := cf_w1 rfl
theorem r_P_write_67 {l0 l1 l2 l3 l4 l5 : Option cf_AV} {a2 a1 a0 : Int32} {w : cf_Wd} {Q : cf_Rs → Prop} : cf_wp T_P_write (67, [l0, l1, l2, l3, l4, l5], [.inl a2, .inl a1, .inl a0], w) Q ↔ ∃ x w1, F_P_in [.inl a0, .inl a1, .inl a2] w = some (some (.inl x), w1) ∧ cf_wp T_P_write (70, [l0, l1, l2, l3, l4, l5], [.inl x], w1) Q := cf_wci (n := 3) (F := F_P_in) (nx := 70) rfl rfl cf_F_b
theorem c_P_write_67 {l0 l1 l2 l3 l4 l5 : Option cf_AV} {a2 a1 a0 : Int32} {x1 : Int32} {w1 : cf_Wd} {w : cf_Wd} {Q : cf_Rs → Prop} (hs : F_P_in [.inl a0, .inl a1, .inl a2] w = some (some (.inl x1), w1)) : cf_wp T_P_write (67, [l0, l1, l2, l3, l4, l5], [.inl a2, .inl a1, .inl a0], w) Q ↔ cf_wp T_P_write (70, [l0, l1, l2, l3, l4, l5], [.inl x1], w1) Q := r_P_write_67.trans (cf_xi hs)
theorem r_P_write_70 {l0 l1 l2 l3 l4 l5 : Option cf_AV} {x : Int32} {st : List cf_AV} {w : cf_Wd} {Q : cf_Rs → Prop} : cf_wp T_P_write (70, [l0, l1, l2, l3, l4, l5], .inl x :: st, w) Q ↔ (if x = 0 then cf_wp T_P_write (96, [l0, l1, l2, l3, l4, l5], st, w) Q else cf_wp T_P_write (73, [l0, l1, l2, l3, l4, l5], st, w) Q) := cf_wi rfl
theorem r_P_write_73 {l0 l1 l2 l4 l5 : Option cf_AV} {x : Int32} {st : List cf_AV} {w : cf_Wd} {Q : cf_Rs → Prop} : cf_wp T_P_write (73, [l0, l1, l2, some (.inl x), l4, l5], st, w) Q ↔ cf_wp T_P_write (74, [l0, l1, l2, some (.inl x), l4, l5], .inl x :: st, w) Q := cf_w1 rfl
theorem r_P_write_74 {l0 l1 l2 l3 l4 l5 : Option cf_AV} {st : List cf_AV} {w : cf_Wd} {Q : cf_Rs → Prop} : cf_wp T_P_write (74, [l0, l1, l2, l3, l4, l5], st, w) Q ↔ cf_wp T_P_write (75, [l0, l1, l2, l3, l4, l5], .inl 0 :: st, w) Q := cf_w1 rfl
theorem r_P_write_75 {l0 l1 l2 l3 l4 l5 : Option cf_AV} {st : List cf_AV} {w : cf_Wd} {Q : cf_Rs → Prop} : cf_wp T_P_write (75, [l0, l1, l2, l3, l4, l5], st, w) Q ↔ cf_wp T_P_write (78, [l0, l1, l2, l3, l4, l5], .inl 999 :: st, w) Q := cf_w1 rfl
theorem r_P_write_78 {l0 l1 l2 l3 l4 l5 : Option cf_AV} {a2 a1 a0 : Int32} {w : cf_Wd} {Q : cf_Rs → Prop} : cf_wp T_P_write (78, [l0, l1, l2, l3, l4, l5], [.inl a2, .inl a1, .inl a0], w) Q ↔ ∃ x w1, F_P_in [.inl a0, .inl a1, .inl a2] w = some (some (.inl x), w1) ∧ cf_wp T_P_write (81, [l0, l1, l2, l3, l4, l5], [.inl x], w1) Q := cf_wci (n := 3) (F := F_P_in) (nx := 81) rfl rfl cf_F_b
theorem c_P_write_78 {l0 l1 l2 l3 l4 l5 : Option cf_AV} {a2 a1 a0 : Int32} {x1 : Int32} {w1 : cf_Wd} {w : cf_Wd} {Q : cf_Rs → Prop} (hs : F_P_in [.inl a0, .inl a1, .inl a2] w = some (some (.inl x1), w1)) : cf_wp T_P_write (78, [l0, l1, l2, l3, l4, l5], [.inl a2, .inl a1, .inl a0], w) Q ↔ cf_wp T_P_write (81, [l0, l1, l2, l3, l4, l5], [.inl x1], w1) Q := r_P_write_78.trans (cf_xi hs)
theorem r_P_write_81 {l0 l1 l2 l3 l4 l5 : Option cf_AV} {x : Int32} {st : List cf_AV} {w : cf_Wd} {Q : cf_Rs → Prop} : cf_wp T_P_write (81, [l0, l1, l2, l3, l4, l5], .inl x :: st, w) Q ↔ (if x = 0 then cf_wp T_P_write (96, [l0, l1, l2, l3, l4, l5], st, w) Q else cf_wp T_P_write (84, [l0, l1, l2, l3, l4, l5], st, w) Q) := cf_wi rfl
theorem r_P_write_84 {l0 l1 l2 l3 l5 : Option cf_AV} {x : Int32} {st : List cf_AV} {w : cf_Wd} {Q : cf_Rs → Prop} : cf_wp T_P_write (84, [l0, l1, l2, l3, some (.inl x), l5], st, w) Q ↔ cf_wp T_P_write (86, [l0, l1, l2, l3, some (.inl x), l5], .inl x :: st, w) Q := cf_w1 rfl
theorem r_P_write_86 {l0 l1 l2 l3 l4 l5 : Option cf_AV} {x : Int32} {st : List cf_AV} {w : cf_Wd} {Q : cf_Rs → Prop} : cf_wp T_P_write (86, [l0, l1, l2, l3, l4, l5], .inl x :: st, w) Q ↔ (if ¬ x = 0 then cf_wp T_P_write (96, [l0, l1, l2, l3, l4, l5], st, w) Q else cf_wp T_P_write (89, [l0, l1, l2, l3, l4, l5], st, w) Q) := cf_wi rfl
theorem r_P_write_89 {l1 l2 l3 l4 l5 : Option cf_AV} {k : Nat} {st : List cf_AV} {w : cf_Wd} {Q : cf_Rs → Prop} : cf_wp T_P_write (89, [some (.inr k), l1, l2, l3, l4, l5], st, w) Q ↔ cf_wp T_P_write (90, [some (.inr k), l1, l2, l3, l4, l5], .inr k :: st, w) Q := cf_w1 rfl
theorem r_P_write_90 {l0 l1 l2 l3 l4 l5 : Option cf_AV} {st : List cf_AV} {w : cf_Wd} {Q : cf_Rs → Prop} : cf_wp T_P_write (90, [l0, l1, l2, l3, l4, l5], .inr 15 :: st, w) Q ↔ cf_wp T_P_write (93, [l0, l1, l2, l3, l4, l5], .inl (w 15 5) :: st, w) Q := cf_w1 rfl
theorem r_P_write_93 {l0 l1 l2 l3 l4 l5 : Option cf_AV} {x : Int32} {st : List cf_AV} {w : cf_Wd} {Q : cf_Rs → Prop} : cf_wp T_P_write (93, [l0, l1, l2, l3, l4, l5], .inl x :: st, w) Q ↔ (if x = 0 then cf_wp T_P_write (98, [l0, l1, l2, l3, l4, l5], st, w) Q else cf_wp T_P_write (96, [l0, l1, l2, l3, l4, l5], st, w) Q) := cf_wi rfl
theorem r_P_write_96 {l0 l1 l2 l3 l4 l5 : Option cf_AV} {st : List cf_AV} {w : cf_Wd} {Q : cf_Rs → Prop} : cf_wp T_P_write (96, [l0, l1, l2, l3, l4, l5], st, w) Q ↔ cf_wp T_P_write (97, [l0, l1, l2, l3, l4, l5], .inl 0 :: st, w) Q := cf_w1 rfl
theorem r_P_write_97 {l0 l1 l2 l3 l4 l5 : Option cf_AV} {x : Int32} {w : cf_Wd} {P : Int32 → cf_Wd → Prop} : cf_wp T_P_write (97, [l0, l1, l2, l3, l4, l5], [.inl x], w) (cf_qb P) ↔ ((x = 0 ∨ x = 1) ∧ P x w) := Iff.trans (cf_wr (q := (some (.inl x), w)) rfl) Iff.rfl
theorem r_P_write_98 {l1 l2 l3 l4 l5 : Option cf_AV} {k : Nat} {st : List cf_AV} {w : cf_Wd} {Q : cf_Rs → Prop} : cf_wp T_P_write (98, [some (.inr k), l1, l2, l3, l4, l5], st, w) Q ↔ cf_wp T_P_write (99, [some (.inr k), l1, l2, l3, l4, l5], .inr k :: st, w) Q := cf_w1 rfl
theorem r_P_write_99 {l0 l1 l2 l3 l4 l5 : Option cf_AV} {st : List cf_AV} {w : cf_Wd} {Q : cf_Rs → Prop} : cf_wp T_P_write (99, [l0, l1, l2, l3, l4, l5], .inr 15 :: st, w) Q ↔ cf_wp T_P_write (102, [l0, l1, l2, l3, l4, l5], .inr 18 :: st, w) Q := cf_w1 rfl
theorem r_P_write_102 {l0 l1 l2 l3 l4 l5 : Option cf_AV} {st : List cf_AV} {w : cf_Wd} {Q : cf_Rs → Prop} : cf_wp T_P_write (102, [l0, l1, l2, l3, l4, l5], st, w) Q ↔ cf_wp T_P_write (104, [l0, l1, l2, l3, l4, l5], .inl 8 :: st, w) Q := cf_w1 rfl
theorem r_P_write_104 {l0 l2 l3 l4 l5 : Option cf_AV} {x : Int32} {st : List cf_AV} {w : cf_Wd} {Q : cf_Rs → Prop} : cf_wp T_P_write (104, [l0, some (.inl x), l2, l3, l4, l5], st, w) Q ↔ cf_wp T_P_write (105, [l0, some (.inl x), l2, l3, l4, l5], .inl x :: st, w) Q := cf_w1 rfl
theorem r_P_write_105 {l0 l1 l2 l3 l4 l5 : Option cf_AV} {x y : Int32} {st : List cf_AV} {w : cf_Wd} {Q : cf_Rs → Prop} : cf_wp T_P_write (105, [l0, l1, l2, l3, l4, l5], .inl y :: .inl x :: st, w) Q ↔ cf_wp T_P_write (106, [l0, l1, l2, l3, l4, l5], .inl (x * y) :: st, w) Q := cf_w1 rfl
theorem r_P_write_106 {l0 l1 l3 l4 l5 : Option cf_AV} {x : Int32} {st : List cf_AV} {w : cf_Wd} {Q : cf_Rs → Prop} : cf_wp T_P_write (106, [l0, l1, some (.inl x), l3, l4, l5], st, w) Q ↔ cf_wp T_P_write (107, [l0, l1, some (.inl x), l3, l4, l5], .inl x :: st, w) Q := cf_w1 rfl
theorem r_P_write_107 {l0 l1 l2 l3 l4 l5 : Option cf_AV} {x y : Int32} {st : List cf_AV} {w : cf_Wd} {Q : cf_Rs → Prop} : cf_wp T_P_write (107, [l0, l1, l2, l3, l4, l5], .inl y :: .inl x :: st, w) Q ↔ cf_wp T_P_write (108, [l0, l1, l2, l3, l4, l5], .inl (x + y) :: st, w) Q := cf_w1 rfl
theorem r_P_write_108 {l0 l1 l2 l4 l5 : Option cf_AV} {x : Int32} {st : List cf_AV} {w : cf_Wd} {Q : cf_Rs → Prop} : cf_wp T_P_write (108, [l0, l1, l2, some (.inl x), l4, l5], st, w) Q ↔ cf_wp T_P_write (109, [l0, l1, l2, some (.inl x), l4, l5], .inl x :: st, w) Q := cf_w1 rfl
theorem r_P_write_109 {l0 l1 l2 l3 l4 l5 : Option cf_AV} {x i : Int32} {st : List cf_AV} {w : cf_Wd} {Q : cf_Rs → Prop} : cf_wp T_P_write (109, [l0, l1, l2, l3, l4, l5], .inl x :: .inl i :: .inr 18 :: st, w) Q ↔ (cf_in i 112 = true ∧ cf_wp T_P_write (110, [l0, l1, l2, l3, l4, l5], st, (cf_wa w 18 (upd (w 18) i.toNatClampNeg x))) Q) := cf_wg rfl
theorem r_P_write_110 {l0 l1 l2 l3 l4 l5 : Option cf_AV} {st : List cf_AV} {w : cf_Wd} {Q : cf_Rs → Prop} : cf_wp T_P_write (110, [l0, l1, l2, l3, l4, l5], st, w) Q ↔ cf_wp T_P_write (111, [l0, l1, l2, l3, l4, l5], .inl 1 :: st, w) Q := cf_w1 rfl
theorem r_P_write_111 {l0 l1 l2 l3 l4 l5 : Option cf_AV} {x : Int32} {w : cf_Wd} {P : Int32 → cf_Wd → Prop} : cf_wp T_P_write (111, [l0, l1, l2, l3, l4, l5], [.inl x], w) (cf_qb P) ↔ ((x = 0 ∨ x = 1) ∧ P x w) := Iff.trans (cf_wr (q := (some (.inl x), w)) rfl) Iff.rfl
theorem e_P_write {a1 a2 a3 : Int32} {w : cf_Wd} {P : Int32 → cf_Wd → Prop} (h : cf_wp T_P_write (0, [some (.inr 15), some (.inl a1), some (.inl a2), some (.inl a3), none, none], [], w) (cf_qb P)) : ∃ x w1, F_P_write [.inr 15, .inl a1, .inl a2, .inl a3] w = some (some (.inl x), w1) ∧ P x w1 := cf_eb rfl (Nat.le_of_ble_eq_true rfl) h
