noncomputable def T_P_work (pc : Nat) : cf_Rw := bif Nat.ble pc 52 then
 (bif Nat.ble pc 21 then
  (bif Nat.ble pc 10 then
   (bif Nat.ble pc 2 then
    (bif Nat.ble pc 0 then
     (bif Nat.beq pc 0 then cf_aload 0 1 else cf_stuck)
     else
     (bif Nat.ble pc 1 then
      (bif Nat.beq pc 1 then cf_const 0 2 else cf_stuck)
      else
      (bif Nat.beq pc 2 then cf_put 5 18 5 else cf_stuck)))
    else
    (bif Nat.ble pc 6 then
     (bif Nat.ble pc 5 then
      (bif Nat.beq pc 5 then cf_aload 0 6 else cf_stuck)
      else
      (bif Nat.beq pc 6 then cf_const (-1) 7 else cf_stuck))
     else
     (bif Nat.ble pc 7 then
      (bif Nat.beq pc 7 then cf_put 5 19 10 else cf_stuck)
      else
      (bif Nat.beq pc 10 then cf_aload 0 11 else cf_stuck))))
   else
   (bif Nat.ble pc 15 then
    (bif Nat.ble pc 11 then
     (bif Nat.beq pc 11 then cf_const 0 12 else cf_stuck)
     else
     (bif Nat.ble pc 12 then
      (bif Nat.beq pc 12 then cf_put 5 20 15 else cf_stuck)
      else
      (bif Nat.beq pc 15 then cf_aload 0 16 else cf_stuck)))
    else
    (bif Nat.ble pc 17 then
     (bif Nat.ble pc 16 then
      (bif Nat.beq pc 16 then cf_const (-1) 17 else cf_stuck)
      else
      (bif Nat.beq pc 17 then cf_put 5 21 20 else cf_stuck))
     else
     (bif Nat.ble pc 20 then
      (bif Nat.beq pc 20 then cf_aload 0 21 else cf_stuck)
      else
      (bif Nat.beq pc 21 then cf_const (-1) 22 else cf_stuck)))))
  else
  (bif Nat.ble pc 36 then
   (bif Nat.ble pc 26 then
    (bif Nat.ble pc 22 then
     (bif Nat.beq pc 22 then cf_put 5 22 25 else cf_stuck)
     else
     (bif Nat.ble pc 25 then
      (bif Nat.beq pc 25 then cf_aload 0 26 else cf_stuck)
      else
      (bif Nat.beq pc 26 then cf_get 5 5 29 else cf_stuck)))
    else
    (bif Nat.ble pc 32 then
     (bif Nat.ble pc 29 then
      (bif Nat.beq pc 29 then cf_ifeq 46 32 else cf_stuck)
      else
      (bif Nat.beq pc 32 then cf_aload 0 33 else cf_stuck))
     else
     (bif Nat.ble pc 33 then
      (bif Nat.beq pc 33 then cf_call 1 F_P_ends 36 else cf_stuck)
      else
      (bif Nat.beq pc 36 then cf_ifeq 46 39 else cf_stuck))))
   else
   (bif Nat.ble pc 46 then
    (bif Nat.ble pc 40 then
     (bif Nat.ble pc 39 then
      (bif Nat.beq pc 39 then cf_aload 0 40 else cf_stuck)
      else
      (bif Nat.beq pc 40 then cf_call 1 F_P_halve 43 else cf_stuck))
     else
     (bif Nat.ble pc 43 then
      (bif Nat.beq pc 43 then cf_ifne 47 46 else cf_stuck)
      else
      (bif Nat.beq pc 46 then cf_vret else cf_stuck)))
    else
    (bif Nat.ble pc 48 then
     (bif Nat.ble pc 47 then
      (bif Nat.beq pc 47 then cf_aload 0 48 else cf_stuck)
      else
      (bif Nat.beq pc 48 then cf_get 5 1 51 else cf_stuck))
     else
     (bif Nat.ble pc 51 then
      (bif Nat.beq pc 51 then cf_aload 0 52 else cf_stuck)
      else
      (bif Nat.beq pc 52 then cf_get 5 21 55 else cf_stuck))))))
 else
 (bif Nat.ble pc 74 then
  (bif Nat.ble pc 63 then
   (bif Nat.ble pc 57 then
    (bif Nat.ble pc 55 then
     (bif Nat.beq pc 55 then cf_iald 56 else cf_stuck)
     else
     (bif Nat.ble pc 56 then
      (bif Nat.beq pc 56 then cf_istore 1 57 else cf_stuck)
      else
      (bif Nat.beq pc 57 then cf_iload 1 58 else cf_stuck)))
    else
    (bif Nat.ble pc 61 then
     (bif Nat.ble pc 58 then
      (bif Nat.beq pc 58 then cf_ifge 67 61 else cf_stuck)
      else
      (bif Nat.beq pc 61 then cf_aload 0 62 else cf_stuck))
     else
     (bif Nat.ble pc 62 then
      (bif Nat.beq pc 62 then cf_const 4 63 else cf_stuck)
      else
      (bif Nat.beq pc 63 then cf_put 5 18 66 else cf_stuck))))
   else
   (bif Nat.ble pc 68 then
    (bif Nat.ble pc 66 then
     (bif Nat.beq pc 66 then cf_vret else cf_stuck)
     else
     (bif Nat.ble pc 67 then
      (bif Nat.beq pc 67 then cf_aload 0 68 else cf_stuck)
      else
      (bif Nat.beq pc 68 then cf_iload 1 69 else cf_stuck)))
    else
    (bif Nat.ble pc 72 then
     (bif Nat.ble pc 69 then
      (bif Nat.beq pc 69 then cf_call 2 F_P_ask 72 else cf_stuck)
      else
      (bif Nat.beq pc 72 then cf_istore 2 73 else cf_stuck))
     else
     (bif Nat.ble pc 73 then
      (bif Nat.beq pc 73 then cf_iload 2 74 else cf_stuck)
      else
      (bif Nat.beq pc 74 then cf_ifne 78 77 else cf_stuck)))))
  else
  (bif Nat.ble pc 85 then
   (bif Nat.ble pc 79 then
    (bif Nat.ble pc 77 then
     (bif Nat.beq pc 77 then cf_vret else cf_stuck)
     else
     (bif Nat.ble pc 78 then
      (bif Nat.beq pc 78 then cf_aload 0 79 else cf_stuck)
      else
      (bif Nat.beq pc 79 then cf_iload 2 80 else cf_stuck)))
    else
    (bif Nat.ble pc 81 then
     (bif Nat.ble pc 80 then
      (bif Nat.beq pc 80 then cf_const 1 81 else cf_stuck)
      else
      (bif Nat.beq pc 81 then cf_icne 88 84 else cf_stuck))
     else
     (bif Nat.ble pc 84 then
      (bif Nat.beq pc 84 then cf_const 3 85 else cf_stuck)
      else
      (bif Nat.beq pc 85 then cf_goto 89 else cf_stuck))))
   else
   (bif Nat.ble pc 93 then
    (bif Nat.ble pc 89 then
     (bif Nat.ble pc 88 then
      (bif Nat.beq pc 88 then cf_const 4 89 else cf_stuck)
      else
      (bif Nat.beq pc 89 then cf_put 5 18 92 else cf_stuck))
     else
     (bif Nat.ble pc 92 then
      (bif Nat.beq pc 92 then cf_iload 2 93 else cf_stuck)
      else
      (bif Nat.beq pc 93 then cf_const 1 94 else cf_stuck)))
    else
    (bif Nat.ble pc 97 then
     (bif Nat.ble pc 94 then
      (bif Nat.beq pc 94 then cf_icne 101 97 else cf_stuck)
      else
      (bif Nat.beq pc 97 then cf_aload 0 98 else cf_stuck))
     else
     (bif Nat.ble pc 98 then
      (bif Nat.beq pc 98 then cf_call 1 F_P_reduce 101 else cf_stuck)
      else
      (bif Nat.beq pc 101 then cf_vret else cf_stuck))))))
noncomputable def F_P_work : List cf_AV → cf_Wd → Option cf_Rs := cf_F T_P_work 3 none (cf_shV 15 0)
theorem r_P_work_0 {l1 l2 : Option cf_AV} {k : Nat} {st : List cf_AV} {w : cf_Wd} {Q : cf_Rs → Prop} : cf_wp T_P_work (0, [some (.inr k), l1, l2], st, w) Q ↔ cf_wp T_P_work (1, [some (.inr k), l1, l2], .inr k :: st, w) Q := cf_w1 rfl
theorem r_P_work_1 {l0 l1 l2 : Option cf_AV} {st : List cf_AV} {w : cf_Wd} {Q : cf_Rs → Prop} : cf_wp T_P_work (1, [l0, l1, l2], st, w) Q ↔ cf_wp T_P_work (2, [l0, l1, l2], .inl 0 :: st, w) Q := cf_w1 rfl
theorem r_P_work_2 {l0 l1 l2 : Option cf_AV} {x : Int32} {st : List cf_AV} {w : cf_Wd} {Q : cf_Rs → Prop} : cf_wp T_P_work (2, [l0, l1, l2], .inl x :: .inr 15 :: st, w) Q ↔ cf_wp T_P_work (5, [l0, l1, l2], st, (cf_wa w 15 (upd (w 15) 18 x))) Q := cf_w1 rfl
theorem r_P_work_5 {l1 l2 : Option cf_AV} {k : Nat} {st : List cf_AV} {w : cf_Wd} {Q : cf_Rs → Prop} : cf_wp T_P_work (5, [some (.inr k), l1, l2], st, w) Q ↔ cf_wp T_P_work (6, [some (.inr k), l1, l2], .inr k :: st, w) Q := cf_w1 rfl
theorem r_P_work_6 {l0 l1 l2 : Option cf_AV} {st : List cf_AV} {w : cf_Wd} {Q : cf_Rs → Prop} : cf_wp T_P_work (6, [l0, l1, l2], st, w) Q ↔ cf_wp T_P_work (7, [l0, l1, l2], .inl (-1) :: st, w) Q := cf_w1 rfl
theorem r_P_work_7 {l0 l1 l2 : Option cf_AV} {x : Int32} {st : List cf_AV} {w : cf_Wd} {Q : cf_Rs → Prop} : cf_wp T_P_work (7, [l0, l1, l2], .inl x :: .inr 15 :: st, w) Q ↔ cf_wp T_P_work (10, [l0, l1, l2], st, (cf_wa w 15 (upd (w 15) 19 x))) Q := cf_w1 rfl
theorem r_P_work_10 {l1 l2 : Option cf_AV} {k : Nat} {st : List cf_AV} {w : cf_Wd} {Q : cf_Rs → Prop} : cf_wp T_P_work (10, [some (.inr k), l1, l2], st, w) Q ↔ cf_wp T_P_work (11, [some (.inr k), l1, l2], .inr k :: st, w) Q := cf_w1 rfl
theorem r_P_work_11 {l0 l1 l2 : Option cf_AV} {st : List cf_AV} {w : cf_Wd} {Q : cf_Rs → Prop} : cf_wp T_P_work (11, [l0, l1, l2], st, w) Q ↔ cf_wp T_P_work (12, [l0, l1, l2], .inl 0 :: st, w) Q := cf_w1 rfl
theorem r_P_work_12 {l0 l1 l2 : Option cf_AV} {x : Int32} {st : List cf_AV} {w : cf_Wd} {Q : cf_Rs → Prop} : cf_wp T_P_work (12, [l0, l1, l2], .inl x :: .inr 15 :: st, w) Q ↔ cf_wp T_P_work (15, [l0, l1, l2], st, (cf_wa w 15 (upd (w 15) 20 x))) Q := cf_w1 rfl
theorem r_P_work_15 {l1 l2 : Option cf_AV} {k : Nat} {st : List cf_AV} {w : cf_Wd} {Q : cf_Rs → Prop} : cf_wp T_P_work (15, [some (.inr k), l1, l2], st, w) Q ↔ cf_wp T_P_work (16, [some (.inr k), l1, l2], .inr k :: st, w) Q := cf_w1 rfl
theorem r_P_work_16 {l0 l1 l2 : Option cf_AV} {st : List cf_AV} {w : cf_Wd} {Q : cf_Rs → Prop} : cf_wp T_P_work (16, [l0, l1, l2], st, w) Q ↔ cf_wp T_P_work (17, [l0, l1, l2], .inl (-1) :: st, w) Q := cf_w1 rfl
theorem r_P_work_17 {l0 l1 l2 : Option cf_AV} {x : Int32} {st : List cf_AV} {w : cf_Wd} {Q : cf_Rs → Prop} : cf_wp T_P_work (17, [l0, l1, l2], .inl x :: .inr 15 :: st, w) Q ↔ cf_wp T_P_work (20, [l0, l1, l2], st, (cf_wa w 15 (upd (w 15) 21 x))) Q := cf_w1 rfl
theorem r_P_work_20 {l1 l2 : Option cf_AV} {k : Nat} {st : List cf_AV} {w : cf_Wd} {Q : cf_Rs → Prop} : cf_wp T_P_work (20, [some (.inr k), l1, l2], st, w) Q ↔ cf_wp T_P_work (21, [some (.inr k), l1, l2], .inr k :: st, w) Q := cf_w1 rfl
theorem r_P_work_21 {l0 l1 l2 : Option cf_AV} {st : List cf_AV} {w : cf_Wd} {Q : cf_Rs → Prop} : cf_wp T_P_work (21, [l0, l1, l2], st, w) Q ↔ cf_wp T_P_work (22, [l0, l1, l2], .inl (-1) :: st, w) Q := cf_w1 rfl
theorem r_P_work_22 {l0 l1 l2 : Option cf_AV} {x : Int32} {st : List cf_AV} {w : cf_Wd} {Q : cf_Rs → Prop} : cf_wp T_P_work (22, [l0, l1, l2], .inl x :: .inr 15 :: st, w) Q ↔ cf_wp T_P_work (25, [l0, l1, l2], st, (cf_wa w 15 (upd (w 15) 22 x))) Q := cf_w1 rfl
theorem r_P_work_25 {l1 l2 : Option cf_AV} {k : Nat} {st : List cf_AV} {w : cf_Wd} {Q : cf_Rs → Prop} : cf_wp T_P_work (25, [some (.inr k), l1, l2], st, w) Q ↔ cf_wp T_P_work (26, [some (.inr k), l1, l2], .inr k :: st, w) Q := cf_w1 rfl
theorem r_P_work_26 {l0 l1 l2 : Option cf_AV} {st : List cf_AV} {w : cf_Wd} {Q : cf_Rs → Prop} : cf_wp T_P_work (26, [l0, l1, l2], .inr 15 :: st, w) Q ↔ cf_wp T_P_work (29, [l0, l1, l2], .inl (w 15 5) :: st, w) Q := cf_w1 rfl
theorem r_P_work_29 {l0 l1 l2 : Option cf_AV} {x : Int32} {st : List cf_AV} {w : cf_Wd} {Q : cf_Rs → Prop} : cf_wp T_P_work (29, [l0, l1, l2], .inl x :: st, w) Q ↔ (if x = 0 then cf_wp T_P_work (46, [l0, l1, l2], st, w) Q else cf_wp T_P_work (32, [l0, l1, l2], st, w) Q) := cf_wi rfl
theorem r_P_work_32 {l1 l2 : Option cf_AV} {k : Nat} {st : List cf_AV} {w : cf_Wd} {Q : cf_Rs → Prop} : cf_wp T_P_work (32, [some (.inr k), l1, l2], st, w) Q ↔ cf_wp T_P_work (33, [some (.inr k), l1, l2], .inr k :: st, w) Q := cf_w1 rfl
theorem r_P_work_33 {l0 l1 l2 : Option cf_AV} {w : cf_Wd} {Q : cf_Rs → Prop} : cf_wp T_P_work (33, [l0, l1, l2], [.inr 15], w) Q ↔ ∃ x w1, F_P_ends [.inr 15] w = some (some (.inl x), w1) ∧ cf_wp T_P_work (36, [l0, l1, l2], [.inl x], w1) Q := cf_wci (n := 1) (F := F_P_ends) (nx := 36) rfl rfl cf_F_b
theorem c_P_work_33 {l0 l1 l2 : Option cf_AV} {x1 : Int32} {w1 : cf_Wd} {w : cf_Wd} {Q : cf_Rs → Prop} (hs : F_P_ends [.inr 15] w = some (some (.inl x1), w1)) : cf_wp T_P_work (33, [l0, l1, l2], [.inr 15], w) Q ↔ cf_wp T_P_work (36, [l0, l1, l2], [.inl x1], w1) Q := r_P_work_33.trans (cf_xi hs)
theorem r_P_work_36 {l0 l1 l2 : Option cf_AV} {x : Int32} {st : List cf_AV} {w : cf_Wd} {Q : cf_Rs → Prop} : cf_wp T_P_work (36, [l0, l1, l2], .inl x :: st, w) Q ↔ (if x = 0 then cf_wp T_P_work (46, [l0, l1, l2], st, w) Q else cf_wp T_P_work (39, [l0, l1, l2], st, w) Q) := cf_wi rfl
theorem r_P_work_39 {l1 l2 : Option cf_AV} {k : Nat} {st : List cf_AV} {w : cf_Wd} {Q : cf_Rs → Prop} : cf_wp T_P_work (39, [some (.inr k), l1, l2], st, w) Q ↔ cf_wp T_P_work (40, [some (.inr k), l1, l2], .inr k :: st, w) Q := cf_w1 rfl
theorem r_P_work_40 {l0 l1 l2 : Option cf_AV} {w : cf_Wd} {Q : cf_Rs → Prop} : cf_wp T_P_work (40, [l0, l1, l2], [.inr 15], w) Q ↔ ∃ x w1, F_P_halve [.inr 15] w = some (some (.inl x), w1) ∧ cf_wp T_P_work (43, [l0, l1, l2], [.inl x], w1) Q := cf_wci (n := 1) (F := F_P_halve) (nx := 43) rfl rfl cf_F_b
theorem c_P_work_40 {l0 l1 l2 : Option cf_AV} {x1 : Int32} {w1 : cf_Wd} {w : cf_Wd} {Q : cf_Rs → Prop} (hs : F_P_halve [.inr 15] w = some (some (.inl x1), w1)) : cf_wp T_P_work (40, [l0, l1, l2], [.inr 15], w) Q ↔ cf_wp T_P_work (43, [l0, l1, l2], [.inl x1], w1) Q := r_P_work_40.trans (cf_xi hs)
theorem r_P_work_43 {l0 l1 l2 : Option cf_AV} {x : Int32} {st : List cf_AV} {w : cf_Wd} {Q : cf_Rs → Prop} : cf_wp T_P_work (43, [l0, l1, l2], .inl x :: st, w) Q ↔ (if ¬ x = 0 then cf_wp T_P_work (47, [l0, l1, l2], st, w) Q else cf_wp T_P_work (46, [l0, l1, l2], st, w) Q) := cf_wi rfl
theorem r_P_work_46 {l0 l1 l2 : Option cf_AV} {w : cf_Wd} {P : cf_Wd → Prop} : cf_wp T_P_work (46, [l0, l1, l2], [], w) (cf_qv P) ↔ P w := Iff.trans (cf_wr (q := (none, w)) rfl) Iff.rfl
theorem r_P_work_47 {l1 l2 : Option cf_AV} {k : Nat} {st : List cf_AV} {w : cf_Wd} {Q : cf_Rs → Prop} : cf_wp T_P_work (47, [some (.inr k), l1, l2], st, w) Q ↔ cf_wp T_P_work (48, [some (.inr k), l1, l2], .inr k :: st, w) Q := cf_w1 rfl
theorem r_P_work_48 {l0 l1 l2 : Option cf_AV} {st : List cf_AV} {w : cf_Wd} {Q : cf_Rs → Prop} : cf_wp T_P_work (48, [l0, l1, l2], .inr 15 :: st, w) Q ↔ cf_wp T_P_work (51, [l0, l1, l2], .inr 16 :: st, w) Q := cf_w1 rfl
theorem r_P_work_51 {l1 l2 : Option cf_AV} {k : Nat} {st : List cf_AV} {w : cf_Wd} {Q : cf_Rs → Prop} : cf_wp T_P_work (51, [some (.inr k), l1, l2], st, w) Q ↔ cf_wp T_P_work (52, [some (.inr k), l1, l2], .inr k :: st, w) Q := cf_w1 rfl
theorem r_P_work_52 {l0 l1 l2 : Option cf_AV} {st : List cf_AV} {w : cf_Wd} {Q : cf_Rs → Prop} : cf_wp T_P_work (52, [l0, l1, l2], .inr 15 :: st, w) Q ↔ cf_wp T_P_work (55, [l0, l1, l2], .inl (w 15 21) :: st, w) Q := cf_w1 rfl
theorem r_P_work_55 {l0 l1 l2 : Option cf_AV} {i : Int32} {st : List cf_AV} {w : cf_Wd} {Q : cf_Rs → Prop} : cf_wp T_P_work (55, [l0, l1, l2], .inl i :: .inr 16 :: st, w) Q ↔ (cf_in i 14 = true ∧ cf_wp T_P_work (56, [l0, l1, l2], .inl (w 16 i.toNatClampNeg) :: st, w) Q) := cf_wg rfl
theorem r_P_work_56 {l0 l1 l2 : Option cf_AV} {x : Int32} {st : List cf_AV} {w : cf_Wd} {Q : cf_Rs → Prop} : cf_wp T_P_work (56, [l0, l1, l2], .inl x :: st, w) Q ↔ cf_wp T_P_work (57, [l0, some (.inl x), l2], st, w) Q := cf_w1 rfl
theorem r_P_work_57 {l0 l2 : Option cf_AV} {x : Int32} {st : List cf_AV} {w : cf_Wd} {Q : cf_Rs → Prop} : cf_wp T_P_work (57, [l0, some (.inl x), l2], st, w) Q ↔ cf_wp T_P_work (58, [l0, some (.inl x), l2], .inl x :: st, w) Q := cf_w1 rfl
theorem r_P_work_58 {l0 l1 l2 : Option cf_AV} {x : Int32} {st : List cf_AV} {w : cf_Wd} {Q : cf_Rs → Prop} : cf_wp T_P_work (58, [l0, l1, l2], .inl x :: st, w) Q ↔ (if 0 ≤ x then cf_wp T_P_work (67, [l0, l1, l2], st, w) Q else cf_wp T_P_work (61, [l0, l1, l2], st, w) Q) := cf_wi rfl
theorem r_P_work_61 {l1 l2 : Option cf_AV} {k : Nat} {st : List cf_AV} {w : cf_Wd} {Q : cf_Rs → Prop} : cf_wp T_P_work (61, [some (.inr k), l1, l2], st, w) Q ↔ cf_wp T_P_work (62, [some (.inr k), l1, l2], .inr k :: st, w) Q := cf_w1 rfl
theorem r_P_work_62 {l0 l1 l2 : Option cf_AV} {st : List cf_AV} {w : cf_Wd} {Q : cf_Rs → Prop} : cf_wp T_P_work (62, [l0, l1, l2], st, w) Q ↔ cf_wp T_P_work (63, [l0, l1, l2], .inl 4 :: st, w) Q := cf_w1 rfl
theorem r_P_work_63 {l0 l1 l2 : Option cf_AV} {x : Int32} {st : List cf_AV} {w : cf_Wd} {Q : cf_Rs → Prop} : cf_wp T_P_work (63, [l0, l1, l2], .inl x :: .inr 15 :: st, w) Q ↔ cf_wp T_P_work (66, [l0, l1, l2], st, (cf_wa w 15 (upd (w 15) 18 x))) Q := cf_w1 rfl
theorem r_P_work_66 {l0 l1 l2 : Option cf_AV} {w : cf_Wd} {P : cf_Wd → Prop} : cf_wp T_P_work (66, [l0, l1, l2], [], w) (cf_qv P) ↔ P w := Iff.trans (cf_wr (q := (none, w)) rfl) Iff.rfl
theorem r_P_work_67 {l1 l2 : Option cf_AV} {k : Nat} {st : List cf_AV} {w : cf_Wd} {Q : cf_Rs → Prop} : cf_wp T_P_work (67, [some (.inr k), l1, l2], st, w) Q ↔ cf_wp T_P_work (68, [some (.inr k), l1, l2], .inr k :: st, w) Q := cf_w1 rfl
theorem r_P_work_68 {l0 l2 : Option cf_AV} {x : Int32} {st : List cf_AV} {w : cf_Wd} {Q : cf_Rs → Prop} : cf_wp T_P_work (68, [l0, some (.inl x), l2], st, w) Q ↔ cf_wp T_P_work (69, [l0, some (.inl x), l2], .inl x :: st, w) Q := cf_w1 rfl
theorem r_P_work_69 {l0 l1 l2 : Option cf_AV} {a1 : Int32} {w : cf_Wd} {Q : cf_Rs → Prop} : cf_wp T_P_work (69, [l0, l1, l2], [.inl a1, .inr 15], w) Q ↔ ∃ x w1, F_P_ask [.inr 15, .inl a1] w = some (some (.inl x), w1) ∧ cf_wp T_P_work (72, [l0, l1, l2], [.inl x], w1) Q := cf_wci (n := 2) (F := F_P_ask) (nx := 72) rfl rfl cf_F_i
theorem c_P_work_69 {l0 l1 l2 : Option cf_AV} {a1 : Int32} {x1 : Int32} {w1 : cf_Wd} {w : cf_Wd} {Q : cf_Rs → Prop} (hs : F_P_ask [.inr 15, .inl a1] w = some (some (.inl x1), w1)) : cf_wp T_P_work (69, [l0, l1, l2], [.inl a1, .inr 15], w) Q ↔ cf_wp T_P_work (72, [l0, l1, l2], [.inl x1], w1) Q := r_P_work_69.trans (cf_xi hs)
theorem r_P_work_72 {l0 l1 l2 : Option cf_AV} {x : Int32} {st : List cf_AV} {w : cf_Wd} {Q : cf_Rs → Prop} : cf_wp T_P_work (72, [l0, l1, l2], .inl x :: st, w) Q ↔ cf_wp T_P_work (73, [l0, l1, some (.inl x)], st, w) Q := cf_w1 rfl
theorem r_P_work_73 {l0 l1 : Option cf_AV} {x : Int32} {st : List cf_AV} {w : cf_Wd} {Q : cf_Rs → Prop} : cf_wp T_P_work (73, [l0, l1, some (.inl x)], st, w) Q ↔ cf_wp T_P_work (74, [l0, l1, some (.inl x)], .inl x :: st, w) Q := cf_w1 rfl
theorem r_P_work_74 {l0 l1 l2 : Option cf_AV} {x : Int32} {st : List cf_AV} {w : cf_Wd} {Q : cf_Rs → Prop} : cf_wp T_P_work (74, [l0, l1, l2], .inl x :: st, w) Q ↔ (if ¬ x = 0 then cf_wp T_P_work (78, [l0, l1, l2], st, w) Q else cf_wp T_P_work (77, [l0, l1, l2], st, w) Q) := cf_wi rfl
theorem r_P_work_77 {l0 l1 l2 : Option cf_AV} {w : cf_Wd} {P : cf_Wd → Prop} : cf_wp T_P_work (77, [l0, l1, l2], [], w) (cf_qv P) ↔ P w := Iff.trans (cf_wr (q := (none, w)) rfl) Iff.rfl
theorem r_P_work_78 {l1 l2 : Option cf_AV} {k : Nat} {st : List cf_AV} {w : cf_Wd} {Q : cf_Rs → Prop} : cf_wp T_P_work (78, [some (.inr k), l1, l2], st, w) Q ↔ cf_wp T_P_work (79, [some (.inr k), l1, l2], .inr k :: st, w) Q := cf_w1 rfl
theorem r_P_work_79 {l0 l1 : Option cf_AV} {x : Int32} {st : List cf_AV} {w : cf_Wd} {Q : cf_Rs → Prop} : cf_wp T_P_work (79, [l0, l1, some (.inl x)], st, w) Q ↔ cf_wp T_P_work (80, [l0, l1, some (.inl x)], .inl x :: st, w) Q := cf_w1 rfl
theorem r_P_work_80 {l0 l1 l2 : Option cf_AV} {st : List cf_AV} {w : cf_Wd} {Q : cf_Rs → Prop} : cf_wp T_P_work (80, [l0, l1, l2], st, w) Q ↔ cf_wp T_P_work (81, [l0, l1, l2], .inl 1 :: st, w) Q := cf_w1 rfl
theorem r_P_work_81 {l0 l1 l2 : Option cf_AV} {x y : Int32} {st : List cf_AV} {w : cf_Wd} {Q : cf_Rs → Prop} : cf_wp T_P_work (81, [l0, l1, l2], .inl y :: .inl x :: st, w) Q ↔ (if ¬ x = y then cf_wp T_P_work (88, [l0, l1, l2], st, w) Q else cf_wp T_P_work (84, [l0, l1, l2], st, w) Q) := cf_wi rfl
theorem r_P_work_84 {l0 l1 l2 : Option cf_AV} {st : List cf_AV} {w : cf_Wd} {Q : cf_Rs → Prop} : cf_wp T_P_work (84, [l0, l1, l2], st, w) Q ↔ cf_wp T_P_work (85, [l0, l1, l2], .inl 3 :: st, w) Q := cf_w1 rfl
theorem r_P_work_85 {l0 l1 l2 : Option cf_AV} {st : List cf_AV} {w : cf_Wd} {Q : cf_Rs → Prop} : cf_wp T_P_work (85, [l0, l1, l2], st, w) Q ↔ cf_wp T_P_work (89, [l0, l1, l2], st, w) Q := cf_w1 rfl
theorem r_P_work_88 {l0 l1 l2 : Option cf_AV} {st : List cf_AV} {w : cf_Wd} {Q : cf_Rs → Prop} : cf_wp T_P_work (88, [l0, l1, l2], st, w) Q ↔ cf_wp T_P_work (89, [l0, l1, l2], .inl 4 :: st, w) Q := cf_w1 rfl
theorem r_P_work_89 {l0 l1 l2 : Option cf_AV} {x : Int32} {st : List cf_AV} {w : cf_Wd} {Q : cf_Rs → Prop} : cf_wp T_P_work (89, [l0, l1, l2], .inl x :: .inr 15 :: st, w) Q ↔ cf_wp T_P_work (92, [l0, l1, l2], st, (cf_wa w 15 (upd (w 15) 18 x))) Q := cf_w1 rfl
theorem r_P_work_92 {l0 l1 : Option cf_AV} {x : Int32} {st : List cf_AV} {w : cf_Wd} {Q : cf_Rs → Prop} : cf_wp T_P_work (92, [l0, l1, some (.inl x)], st, w) Q ↔ cf_wp T_P_work (93, [l0, l1, some (.inl x)], .inl x :: st, w) Q := cf_w1 rfl
theorem r_P_work_93 {l0 l1 l2 : Option cf_AV} {st : List cf_AV} {w : cf_Wd} {Q : cf_Rs → Prop} : cf_wp T_P_work (93, [l0, l1, l2], st, w) Q ↔ cf_wp T_P_work (94, [l0, l1, l2], .inl 1 :: st, w) Q := cf_w1 rfl
theorem r_P_work_94 {l0 l1 l2 : Option cf_AV} {x y : Int32} {st : List cf_AV} {w : cf_Wd} {Q : cf_Rs → Prop} : cf_wp T_P_work (94, [l0, l1, l2], .inl y :: .inl x :: st, w) Q ↔ (if ¬ x = y then cf_wp T_P_work (101, [l0, l1, l2], st, w) Q else cf_wp T_P_work (97, [l0, l1, l2], st, w) Q) := cf_wi rfl
theorem r_P_work_97 {l1 l2 : Option cf_AV} {k : Nat} {st : List cf_AV} {w : cf_Wd} {Q : cf_Rs → Prop} : cf_wp T_P_work (97, [some (.inr k), l1, l2], st, w) Q ↔ cf_wp T_P_work (98, [some (.inr k), l1, l2], .inr k :: st, w) Q := cf_w1 rfl
theorem r_P_work_98 {l0 l1 l2 : Option cf_AV} {w : cf_Wd} {Q : cf_Rs → Prop} : cf_wp T_P_work (98, [l0, l1, l2], [.inr 15], w) Q ↔ ∃ w1, F_P_reduce [.inr 15] w = some (none, w1) ∧ cf_wp T_P_work (101, [l0, l1, l2], [], w1) Q := cf_wcv (n := 1) (F := F_P_reduce) (nx := 101) rfl rfl cf_F_v
theorem c_P_work_98 {l0 l1 l2 : Option cf_AV} {w1 : cf_Wd} {w : cf_Wd} {Q : cf_Rs → Prop} (hs : F_P_reduce [.inr 15] w = some (none, w1)) : cf_wp T_P_work (98, [l0, l1, l2], [.inr 15], w) Q ↔ cf_wp T_P_work (101, [l0, l1, l2], [], w1) Q := r_P_work_98.trans (cf_xv hs)
theorem r_P_work_101 {l0 l1 l2 : Option cf_AV} {w : cf_Wd} {P : cf_Wd → Prop} : cf_wp T_P_work (101, [l0, l1, l2], [], w) (cf_qv P) ↔ P w := Iff.trans (cf_wr (q := (none, w)) rfl) Iff.rfl
theorem e_P_work {w : cf_Wd} {P : cf_Wd → Prop} (h : cf_wp T_P_work (0, [some (.inr 15), none, none], [], w) (cf_qv P)) : ∃ w1, F_P_work [.inr 15] w = some (none, w1) ∧ P w1 := cf_ev rfl (Nat.le_of_ble_eq_true rfl) h
noncomputable def T_P_next (pc : Nat) : cf_Rw := bif Nat.ble pc 1 then
 (bif Nat.ble pc 0 then
  (bif Nat.beq pc 0 then cf_aload 0 1 else cf_stuck)
  else
  (bif Nat.beq pc 1 then cf_call 1 F_P_work 4 else cf_stuck))
 else
 (bif Nat.ble pc 4 then
  (bif Nat.beq pc 4 then cf_aload 0 5 else cf_stuck)
  else
  (bif Nat.ble pc 5 then
   (bif Nat.beq pc 5 then cf_get 5 19 8 else cf_stuck)
   else
   (bif Nat.beq pc 8 then cf_iret else cf_stuck)))
noncomputable def F_P_next : List cf_AV → cf_Wd → Option cf_Rs := cf_F T_P_next 1 (some .int) (cf_shV 15 0)
theorem r_P_next_0 {k : Nat} {st : List cf_AV} {w : cf_Wd} {Q : cf_Rs → Prop} : cf_wp T_P_next (0, [some (.inr k)], st, w) Q ↔ cf_wp T_P_next (1, [some (.inr k)], .inr k :: st, w) Q := cf_w1 rfl
theorem r_P_next_1 {l0 : Option cf_AV} {w : cf_Wd} {Q : cf_Rs → Prop} : cf_wp T_P_next (1, [l0], [.inr 15], w) Q ↔ ∃ w1, F_P_work [.inr 15] w = some (none, w1) ∧ cf_wp T_P_next (4, [l0], [], w1) Q := cf_wcv (n := 1) (F := F_P_work) (nx := 4) rfl rfl cf_F_v
theorem c_P_next_1 {l0 : Option cf_AV} {w1 : cf_Wd} {w : cf_Wd} {Q : cf_Rs → Prop} (hs : F_P_work [.inr 15] w = some (none, w1)) : cf_wp T_P_next (1, [l0], [.inr 15], w) Q ↔ cf_wp T_P_next (4, [l0], [], w1) Q := r_P_next_1.trans (cf_xv hs)
theorem r_P_next_4 {k : Nat} {st : List cf_AV} {w : cf_Wd} {Q : cf_Rs → Prop} : cf_wp T_P_next (4, [some (.inr k)], st, w) Q ↔ cf_wp T_P_next (5, [some (.inr k)], .inr k :: st, w) Q := cf_w1 rfl
theorem r_P_next_5 {l0 : Option cf_AV} {st : List cf_AV} {w : cf_Wd} {Q : cf_Rs → Prop} : cf_wp T_P_next (5, [l0], .inr 15 :: st, w) Q ↔ cf_wp T_P_next (8, [l0], .inl (w 15 19) :: st, w) Q := cf_w1 rfl
theorem r_P_next_8 {l0 : Option cf_AV} {x : Int32} {w : cf_Wd} {P : Int32 → cf_Wd → Prop} : cf_wp T_P_next (8, [l0], [.inl x], w) (cf_qi P) ↔ P x w := Iff.trans (cf_wr (q := (some (.inl x), w)) rfl) Iff.rfl
theorem e_P_next {w : cf_Wd} {P : Int32 → cf_Wd → Prop} (h : cf_wp T_P_next (0, [some (.inr 15)], [], w) (cf_qi P)) : ∃ x w1, F_P_next [.inr 15] w = some (some (.inl x), w1) ∧ P x w1 := cf_ei rfl (Nat.le_of_ble_eq_true rfl) h
noncomputable def T_P_start (pc : Nat) : cf_Rw := bif Nat.ble pc 19 then
 (bif Nat.ble pc 8 then
  (bif Nat.ble pc 1 then
   (bif Nat.ble pc 0 then
    (bif Nat.beq pc 0 then cf_aload 0 1 else cf_stuck)
    else
    (bif Nat.beq pc 1 then cf_call 1 F_P_work 4 else cf_stuck))
   else
   (bif Nat.ble pc 4 then
    (bif Nat.beq pc 4 then cf_aload 0 5 else cf_stuck)
    else
    (bif Nat.ble pc 5 then
     (bif Nat.beq pc 5 then cf_get 5 19 8 else cf_stuck)
     else
     (bif Nat.beq pc 8 then cf_iflt 18 11 else cf_stuck))))
  else
  (bif Nat.ble pc 12 then
   (bif Nat.ble pc 11 then
    (bif Nat.beq pc 11 then cf_aload 0 12 else cf_stuck)
    else
    (bif Nat.beq pc 12 then cf_get 5 9 15 else cf_stuck))
   else
   (bif Nat.ble pc 15 then
    (bif Nat.beq pc 15 then cf_ifeq 20 18 else cf_stuck)
    else
    (bif Nat.ble pc 18 then
     (bif Nat.beq pc 18 then cf_const 0 19 else cf_stuck)
     else
     (bif Nat.beq pc 19 then cf_iret else cf_stuck)))))
 else
 (bif Nat.ble pc 26 then
  (bif Nat.ble pc 21 then
   (bif Nat.ble pc 20 then
    (bif Nat.beq pc 20 then cf_aload 0 21 else cf_stuck)
    else
    (bif Nat.beq pc 21 then cf_const 1 22 else cf_stuck))
   else
   (bif Nat.ble pc 22 then
    (bif Nat.beq pc 22 then cf_putz 5 9 25 else cf_stuck)
    else
    (bif Nat.ble pc 25 then
     (bif Nat.beq pc 25 then cf_aload 0 26 else cf_stuck)
     else
     (bif Nat.beq pc 26 then cf_aload 0 27 else cf_stuck))))
  else
  (bif Nat.ble pc 31 then
   (bif Nat.ble pc 27 then
    (bif Nat.beq pc 27 then cf_get 5 10 30 else cf_stuck)
    else
    (bif Nat.ble pc 30 then
     (bif Nat.beq pc 30 then cf_const 1 31 else cf_stuck)
     else
     (bif Nat.beq pc 31 then cf_bin (fun x y => x + y) 32 else cf_stuck)))
   else
   (bif Nat.ble pc 32 then
    (bif Nat.beq pc 32 then cf_put 5 10 35 else cf_stuck)
    else
    (bif Nat.ble pc 35 then
     (bif Nat.beq pc 35 then cf_const 1 36 else cf_stuck)
     else
     (bif Nat.beq pc 36 then cf_iret else cf_stuck)))))
noncomputable def F_P_start : List cf_AV → cf_Wd → Option cf_Rs := cf_F T_P_start 1 (some .boolean) (cf_shV 15 0)
theorem r_P_start_0 {k : Nat} {st : List cf_AV} {w : cf_Wd} {Q : cf_Rs → Prop} : cf_wp T_P_start (0, [some (.inr k)], st, w) Q ↔ cf_wp T_P_start (1, [some (.inr k)], .inr k :: st, w) Q := cf_w1 rfl
theorem r_P_start_1 {l0 : Option cf_AV} {w : cf_Wd} {Q : cf_Rs → Prop} : cf_wp T_P_start (1, [l0], [.inr 15], w) Q ↔ ∃ w1, F_P_work [.inr 15] w = some (none, w1) ∧ cf_wp T_P_start (4, [l0], [], w1) Q := cf_wcv (n := 1) (F := F_P_work) (nx := 4) rfl rfl cf_F_v
theorem c_P_start_1 {l0 : Option cf_AV} {w1 : cf_Wd} {w : cf_Wd} {Q : cf_Rs → Prop} (hs : F_P_work [.inr 15] w = some (none, w1)) : cf_wp T_P_start (1, [l0], [.inr 15], w) Q ↔ cf_wp T_P_start (4, [l0], [], w1) Q := r_P_start_1.trans (cf_xv hs)
theorem r_P_start_4 {k : Nat} {st : List cf_AV} {w : cf_Wd} {Q : cf_Rs → Prop} : cf_wp T_P_start (4, [some (.inr k)], st, w) Q ↔ cf_wp T_P_start (5, [some (.inr k)], .inr k :: st, w) Q := cf_w1 rfl
theorem r_P_start_5 {l0 : Option cf_AV} {st : List cf_AV} {w : cf_Wd} {Q : cf_Rs → Prop} : cf_wp T_P_start (5, [l0], .inr 15 :: st, w) Q ↔ cf_wp T_P_start (8, [l0], .inl (w 15 19) :: st, w) Q := cf_w1 rfl
theorem r_P_start_8 {l0 : Option cf_AV} {x : Int32} {st : List cf_AV} {w : cf_Wd} {Q : cf_Rs → Prop} : cf_wp T_P_start (8, [l0], .inl x :: st, w) Q ↔ (if x < 0 then cf_wp T_P_start (18, [l0], st, w) Q else cf_wp T_P_start (11, [l0], st, w) Q) := cf_wi rfl
theorem r_P_start_11 {k : Nat} {st : List cf_AV} {w : cf_Wd} {Q : cf_Rs → Prop} : cf_wp T_P_start (11, [some (.inr k)], st, w) Q ↔ cf_wp T_P_start (12, [some (.inr k)], .inr k :: st, w) Q := cf_w1 rfl
theorem r_P_start_12 {l0 : Option cf_AV} {st : List cf_AV} {w : cf_Wd} {Q : cf_Rs → Prop} : cf_wp T_P_start (12, [l0], .inr 15 :: st, w) Q ↔ cf_wp T_P_start (15, [l0], .inl (w 15 9) :: st, w) Q := cf_w1 rfl
theorem r_P_start_15 {l0 : Option cf_AV} {x : Int32} {st : List cf_AV} {w : cf_Wd} {Q : cf_Rs → Prop} : cf_wp T_P_start (15, [l0], .inl x :: st, w) Q ↔ (if x = 0 then cf_wp T_P_start (20, [l0], st, w) Q else cf_wp T_P_start (18, [l0], st, w) Q) := cf_wi rfl
theorem r_P_start_18 {l0 : Option cf_AV} {st : List cf_AV} {w : cf_Wd} {Q : cf_Rs → Prop} : cf_wp T_P_start (18, [l0], st, w) Q ↔ cf_wp T_P_start (19, [l0], .inl 0 :: st, w) Q := cf_w1 rfl
theorem r_P_start_19 {l0 : Option cf_AV} {x : Int32} {w : cf_Wd} {P : Int32 → cf_Wd → Prop} : cf_wp T_P_start (19, [l0], [.inl x], w) (cf_qb P) ↔ ((x = 0 ∨ x = 1) ∧ P x w) := Iff.trans (cf_wr (q := (some (.inl x), w)) rfl) Iff.rfl
theorem r_P_start_20 {k : Nat} {st : List cf_AV} {w : cf_Wd} {Q : cf_Rs → Prop} : cf_wp T_P_start (20, [some (.inr k)], st, w) Q ↔ cf_wp T_P_start (21, [some (.inr k)], .inr k :: st, w) Q := cf_w1 rfl
theorem r_P_start_21 {l0 : Option cf_AV} {st : List cf_AV} {w : cf_Wd} {Q : cf_Rs → Prop} : cf_wp T_P_start (21, [l0], st, w) Q ↔ cf_wp T_P_start (22, [l0], .inl 1 :: st, w) Q := cf_w1 rfl
theorem r_P_start_22 {l0 : Option cf_AV} {x : Int32} {st : List cf_AV} {w : cf_Wd} {Q : cf_Rs → Prop} : cf_wp T_P_start (22, [l0], .inl x :: .inr 15 :: st, w) Q ↔ ((x == 0 || x == 1) = true ∧ cf_wp T_P_start (25, [l0], st, (cf_wa w 15 (upd (w 15) 9 x))) Q) := cf_wg rfl
theorem r_P_start_25 {k : Nat} {st : List cf_AV} {w : cf_Wd} {Q : cf_Rs → Prop} : cf_wp T_P_start (25, [some (.inr k)], st, w) Q ↔ cf_wp T_P_start (26, [some (.inr k)], .inr k :: st, w) Q := cf_w1 rfl
theorem r_P_start_26 {k : Nat} {st : List cf_AV} {w : cf_Wd} {Q : cf_Rs → Prop} : cf_wp T_P_start (26, [some (.inr k)], st, w) Q ↔ cf_wp T_P_start (27, [some (.inr k)], .inr k :: st, w) Q := cf_w1 rfl
theorem r_P_start_27 {l0 : Option cf_AV} {st : List cf_AV} {w : cf_Wd} {Q : cf_Rs → Prop} : cf_wp T_P_start (27, [l0], .inr 15 :: st, w) Q ↔ cf_wp T_P_start (30, [l0], .inl (w 15 10) :: st, w) Q := cf_w1 rfl
theorem r_P_start_30 {l0 : Option cf_AV} {st : List cf_AV} {w : cf_Wd} {Q : cf_Rs → Prop} : cf_wp T_P_start (30, [l0], st, w) Q ↔ cf_wp T_P_start (31, [l0], .inl 1 :: st, w) Q := cf_w1 rfl
theorem r_P_start_31 {l0 : Option cf_AV} {x y : Int32} {st : List cf_AV} {w : cf_Wd} {Q : cf_Rs → Prop} : cf_wp T_P_start (31, [l0], .inl y :: .inl x :: st, w) Q ↔ cf_wp T_P_start (32, [l0], .inl (x + y) :: st, w) Q := cf_w1 rfl
theorem r_P_start_32 {l0 : Option cf_AV} {x : Int32} {st : List cf_AV} {w : cf_Wd} {Q : cf_Rs → Prop} : cf_wp T_P_start (32, [l0], .inl x :: .inr 15 :: st, w) Q ↔ cf_wp T_P_start (35, [l0], st, (cf_wa w 15 (upd (w 15) 10 x))) Q := cf_w1 rfl
theorem r_P_start_35 {l0 : Option cf_AV} {st : List cf_AV} {w : cf_Wd} {Q : cf_Rs → Prop} : cf_wp T_P_start (35, [l0], st, w) Q ↔ cf_wp T_P_start (36, [l0], .inl 1 :: st, w) Q := cf_w1 rfl
theorem r_P_start_36 {l0 : Option cf_AV} {x : Int32} {w : cf_Wd} {P : Int32 → cf_Wd → Prop} : cf_wp T_P_start (36, [l0], [.inl x], w) (cf_qb P) ↔ ((x = 0 ∨ x = 1) ∧ P x w) := Iff.trans (cf_wr (q := (some (.inl x), w)) rfl) Iff.rfl
theorem e_P_start {w : cf_Wd} {P : Int32 → cf_Wd → Prop} (h : cf_wp T_P_start (0, [some (.inr 15)], [], w) (cf_qb P)) : ∃ x w1, F_P_start [.inr 15] w = some (some (.inl x), w1) ∧ P x w1 := cf_eb rfl (Nat.le_of_ble_eq_true rfl) h
noncomputable def T_P_finish (pc : Nat) : cf_Rw := bif Nat.ble pc 31 then
 (bif Nat.ble pc 14 then
  (bif Nat.ble pc 7 then
   (bif Nat.ble pc 1 then
    (bif Nat.ble pc 0 then
     (bif Nat.beq pc 0 then cf_aload 0 1 else cf_stuck)
     else
     (bif Nat.beq pc 1 then cf_get 5 9 4 else cf_stuck))
    else
    (bif Nat.ble pc 4 then
     (bif Nat.beq pc 4 then cf_ifne 9 7 else cf_stuck)
     else
     (bif Nat.beq pc 7 then cf_const 0 8 else cf_stuck)))
   else
   (bif Nat.ble pc 9 then
    (bif Nat.ble pc 8 then
     (bif Nat.beq pc 8 then cf_iret else cf_stuck)
     else
     (bif Nat.beq pc 9 then cf_aload 0 10 else cf_stuck))
    else
    (bif Nat.ble pc 10 then
     (bif Nat.beq pc 10 then cf_call 1 F_P_work 13 else cf_stuck)
     else
     (bif Nat.ble pc 13 then
      (bif Nat.beq pc 13 then cf_aload 0 14 else cf_stuck)
      else
      (bif Nat.beq pc 14 then cf_aload 0 15 else cf_stuck)))))
  else
  (bif Nat.ble pc 22 then
   (bif Nat.ble pc 18 then
    (bif Nat.ble pc 15 then
     (bif Nat.beq pc 15 then cf_get 5 19 18 else cf_stuck)
     else
     (bif Nat.beq pc 18 then cf_call 2 F_P_judge 21 else cf_stuck))
    else
    (bif Nat.ble pc 21 then
     (bif Nat.beq pc 21 then cf_istore 1 22 else cf_stuck)
     else
     (bif Nat.beq pc 22 then cf_aload 0 23 else cf_stuck)))
   else
   (bif Nat.ble pc 26 then
    (bif Nat.ble pc 23 then
     (bif Nat.beq pc 23 then cf_get 5 12 26 else cf_stuck)
     else
     (bif Nat.beq pc 26 then cf_aload 0 27 else cf_stuck))
    else
    (bif Nat.ble pc 27 then
     (bif Nat.beq pc 27 then cf_get 5 11 30 else cf_stuck)
     else
     (bif Nat.ble pc 30 then
      (bif Nat.beq pc 30 then cf_aload 0 31 else cf_stuck)
      else
      (bif Nat.beq pc 31 then cf_get 5 19 34 else cf_stuck))))))
 else
 (bif Nat.ble pc 46 then
  (bif Nat.ble pc 39 then
   (bif Nat.ble pc 35 then
    (bif Nat.ble pc 34 then
     (bif Nat.beq pc 34 then cf_iast 35 else cf_stuck)
     else
     (bif Nat.beq pc 35 then cf_aload 0 36 else cf_stuck))
    else
    (bif Nat.ble pc 36 then
     (bif Nat.beq pc 36 then cf_get 5 13 39 else cf_stuck)
     else
     (bif Nat.beq pc 39 then cf_aload 0 40 else cf_stuck)))
   else
   (bif Nat.ble pc 43 then
    (bif Nat.ble pc 40 then
     (bif Nat.beq pc 40 then cf_get 5 11 43 else cf_stuck)
     else
     (bif Nat.beq pc 43 then cf_iload 1 44 else cf_stuck))
    else
    (bif Nat.ble pc 44 then
     (bif Nat.beq pc 44 then cf_iast 45 else cf_stuck)
     else
     (bif Nat.ble pc 45 then
      (bif Nat.beq pc 45 then cf_aload 0 46 else cf_stuck)
      else
      (bif Nat.beq pc 46 then cf_aload 0 47 else cf_stuck)))))
  else
  (bif Nat.ble pc 52 then
   (bif Nat.ble pc 50 then
    (bif Nat.ble pc 47 then
     (bif Nat.beq pc 47 then cf_get 5 11 50 else cf_stuck)
     else
     (bif Nat.beq pc 50 then cf_const 1 51 else cf_stuck))
    else
    (bif Nat.ble pc 51 then
     (bif Nat.beq pc 51 then cf_bin (fun x y => x + y) 52 else cf_stuck)
     else
     (bif Nat.beq pc 52 then cf_put 5 11 55 else cf_stuck)))
   else
   (bif Nat.ble pc 56 then
    (bif Nat.ble pc 55 then
     (bif Nat.beq pc 55 then cf_aload 0 56 else cf_stuck)
     else
     (bif Nat.beq pc 56 then cf_const 0 57 else cf_stuck))
    else
    (bif Nat.ble pc 57 then
     (bif Nat.beq pc 57 then cf_putz 5 9 60 else cf_stuck)
     else
     (bif Nat.ble pc 60 then
      (bif Nat.beq pc 60 then cf_iload 1 61 else cf_stuck)
      else
      (bif Nat.beq pc 61 then cf_iret else cf_stuck))))))
noncomputable def F_P_finish : List cf_AV → cf_Wd → Option cf_Rs := cf_F T_P_finish 2 (some .int) (cf_shV 15 0)
theorem r_P_finish_0 {l1 : Option cf_AV} {k : Nat} {st : List cf_AV} {w : cf_Wd} {Q : cf_Rs → Prop} : cf_wp T_P_finish (0, [some (.inr k), l1], st, w) Q ↔ cf_wp T_P_finish (1, [some (.inr k), l1], .inr k :: st, w) Q := cf_w1 rfl
theorem r_P_finish_1 {l0 l1 : Option cf_AV} {st : List cf_AV} {w : cf_Wd} {Q : cf_Rs → Prop} : cf_wp T_P_finish (1, [l0, l1], .inr 15 :: st, w) Q ↔ cf_wp T_P_finish (4, [l0, l1], .inl (w 15 9) :: st, w) Q := cf_w1 rfl
theorem r_P_finish_4 {l0 l1 : Option cf_AV} {x : Int32} {st : List cf_AV} {w : cf_Wd} {Q : cf_Rs → Prop} : cf_wp T_P_finish (4, [l0, l1], .inl x :: st, w) Q ↔ (if ¬ x = 0 then cf_wp T_P_finish (9, [l0, l1], st, w) Q else cf_wp T_P_finish (7, [l0, l1], st, w) Q) := cf_wi rfl
theorem r_P_finish_7 {l0 l1 : Option cf_AV} {st : List cf_AV} {w : cf_Wd} {Q : cf_Rs → Prop} : cf_wp T_P_finish (7, [l0, l1], st, w) Q ↔ cf_wp T_P_finish (8, [l0, l1], .inl 0 :: st, w) Q := cf_w1 rfl
theorem r_P_finish_8 {l0 l1 : Option cf_AV} {x : Int32} {w : cf_Wd} {P : Int32 → cf_Wd → Prop} : cf_wp T_P_finish (8, [l0, l1], [.inl x], w) (cf_qi P) ↔ P x w := Iff.trans (cf_wr (q := (some (.inl x), w)) rfl) Iff.rfl
theorem r_P_finish_9 {l1 : Option cf_AV} {k : Nat} {st : List cf_AV} {w : cf_Wd} {Q : cf_Rs → Prop} : cf_wp T_P_finish (9, [some (.inr k), l1], st, w) Q ↔ cf_wp T_P_finish (10, [some (.inr k), l1], .inr k :: st, w) Q := cf_w1 rfl
theorem r_P_finish_10 {l0 l1 : Option cf_AV} {w : cf_Wd} {Q : cf_Rs → Prop} : cf_wp T_P_finish (10, [l0, l1], [.inr 15], w) Q ↔ ∃ w1, F_P_work [.inr 15] w = some (none, w1) ∧ cf_wp T_P_finish (13, [l0, l1], [], w1) Q := cf_wcv (n := 1) (F := F_P_work) (nx := 13) rfl rfl cf_F_v
theorem c_P_finish_10 {l0 l1 : Option cf_AV} {w1 : cf_Wd} {w : cf_Wd} {Q : cf_Rs → Prop} (hs : F_P_work [.inr 15] w = some (none, w1)) : cf_wp T_P_finish (10, [l0, l1], [.inr 15], w) Q ↔ cf_wp T_P_finish (13, [l0, l1], [], w1) Q := r_P_finish_10.trans (cf_xv hs)
theorem r_P_finish_13 {l1 : Option cf_AV} {k : Nat} {st : List cf_AV} {w : cf_Wd} {Q : cf_Rs → Prop} : cf_wp T_P_finish (13, [some (.inr k), l1], st, w) Q ↔ cf_wp T_P_finish (14, [some (.inr k), l1], .inr k :: st, w) Q := cf_w1 rfl
theorem r_P_finish_14 {l1 : Option cf_AV} {k : Nat} {st : List cf_AV} {w : cf_Wd} {Q : cf_Rs → Prop} : cf_wp T_P_finish (14, [some (.inr k), l1], st, w) Q ↔ cf_wp T_P_finish (15, [some (.inr k), l1], .inr k :: st, w) Q := cf_w1 rfl
theorem r_P_finish_15 {l0 l1 : Option cf_AV} {st : List cf_AV} {w : cf_Wd} {Q : cf_Rs → Prop} : cf_wp T_P_finish (15, [l0, l1], .inr 15 :: st, w) Q ↔ cf_wp T_P_finish (18, [l0, l1], .inl (w 15 19) :: st, w) Q := cf_w1 rfl
theorem r_P_finish_18 {l0 l1 : Option cf_AV} {a1 : Int32} {w : cf_Wd} {Q : cf_Rs → Prop} : cf_wp T_P_finish (18, [l0, l1], [.inl a1, .inr 15], w) Q ↔ ∃ x w1, F_P_judge [.inr 15, .inl a1] w = some (some (.inl x), w1) ∧ cf_wp T_P_finish (21, [l0, l1], [.inl x], w1) Q := cf_wci (n := 2) (F := F_P_judge) (nx := 21) rfl rfl cf_F_i
theorem c_P_finish_18 {l0 l1 : Option cf_AV} {a1 : Int32} {x1 : Int32} {w1 : cf_Wd} {w : cf_Wd} {Q : cf_Rs → Prop} (hs : F_P_judge [.inr 15, .inl a1] w = some (some (.inl x1), w1)) : cf_wp T_P_finish (18, [l0, l1], [.inl a1, .inr 15], w) Q ↔ cf_wp T_P_finish (21, [l0, l1], [.inl x1], w1) Q := r_P_finish_18.trans (cf_xi hs)
theorem r_P_finish_21 {l0 l1 : Option cf_AV} {x : Int32} {st : List cf_AV} {w : cf_Wd} {Q : cf_Rs → Prop} : cf_wp T_P_finish (21, [l0, l1], .inl x :: st, w) Q ↔ cf_wp T_P_finish (22, [l0, some (.inl x)], st, w) Q := cf_w1 rfl
theorem r_P_finish_22 {l1 : Option cf_AV} {k : Nat} {st : List cf_AV} {w : cf_Wd} {Q : cf_Rs → Prop} : cf_wp T_P_finish (22, [some (.inr k), l1], st, w) Q ↔ cf_wp T_P_finish (23, [some (.inr k), l1], .inr k :: st, w) Q := cf_w1 rfl
theorem r_P_finish_23 {l0 l1 : Option cf_AV} {st : List cf_AV} {w : cf_Wd} {Q : cf_Rs → Prop} : cf_wp T_P_finish (23, [l0, l1], .inr 15 :: st, w) Q ↔ cf_wp T_P_finish (26, [l0, l1], .inr 20 :: st, w) Q := cf_w1 rfl
theorem r_P_finish_26 {l1 : Option cf_AV} {k : Nat} {st : List cf_AV} {w : cf_Wd} {Q : cf_Rs → Prop} : cf_wp T_P_finish (26, [some (.inr k), l1], st, w) Q ↔ cf_wp T_P_finish (27, [some (.inr k), l1], .inr k :: st, w) Q := cf_w1 rfl
theorem r_P_finish_27 {l0 l1 : Option cf_AV} {st : List cf_AV} {w : cf_Wd} {Q : cf_Rs → Prop} : cf_wp T_P_finish (27, [l0, l1], .inr 15 :: st, w) Q ↔ cf_wp T_P_finish (30, [l0, l1], .inl (w 15 11) :: st, w) Q := cf_w1 rfl
theorem r_P_finish_30 {l1 : Option cf_AV} {k : Nat} {st : List cf_AV} {w : cf_Wd} {Q : cf_Rs → Prop} : cf_wp T_P_finish (30, [some (.inr k), l1], st, w) Q ↔ cf_wp T_P_finish (31, [some (.inr k), l1], .inr k :: st, w) Q := cf_w1 rfl
theorem r_P_finish_31 {l0 l1 : Option cf_AV} {st : List cf_AV} {w : cf_Wd} {Q : cf_Rs → Prop} : cf_wp T_P_finish (31, [l0, l1], .inr 15 :: st, w) Q ↔ cf_wp T_P_finish (34, [l0, l1], .inl (w 15 19) :: st, w) Q := cf_w1 rfl
theorem r_P_finish_34 {l0 l1 : Option cf_AV} {x i : Int32} {st : List cf_AV} {w : cf_Wd} {Q : cf_Rs → Prop} : cf_wp T_P_finish (34, [l0, l1], .inl x :: .inl i :: .inr 20 :: st, w) Q ↔ (cf_in i 600 = true ∧ cf_wp T_P_finish (35, [l0, l1], st, (cf_wa w 20 (upd (w 20) i.toNatClampNeg x))) Q) := cf_wg rfl
theorem r_P_finish_35 {l1 : Option cf_AV} {k : Nat} {st : List cf_AV} {w : cf_Wd} {Q : cf_Rs → Prop} : cf_wp T_P_finish (35, [some (.inr k), l1], st, w) Q ↔ cf_wp T_P_finish (36, [some (.inr k), l1], .inr k :: st, w) Q := cf_w1 rfl
theorem r_P_finish_36 {l0 l1 : Option cf_AV} {st : List cf_AV} {w : cf_Wd} {Q : cf_Rs → Prop} : cf_wp T_P_finish (36, [l0, l1], .inr 15 :: st, w) Q ↔ cf_wp T_P_finish (39, [l0, l1], .inr 21 :: st, w) Q := cf_w1 rfl
theorem r_P_finish_39 {l1 : Option cf_AV} {k : Nat} {st : List cf_AV} {w : cf_Wd} {Q : cf_Rs → Prop} : cf_wp T_P_finish (39, [some (.inr k), l1], st, w) Q ↔ cf_wp T_P_finish (40, [some (.inr k), l1], .inr k :: st, w) Q := cf_w1 rfl
theorem r_P_finish_40 {l0 l1 : Option cf_AV} {st : List cf_AV} {w : cf_Wd} {Q : cf_Rs → Prop} : cf_wp T_P_finish (40, [l0, l1], .inr 15 :: st, w) Q ↔ cf_wp T_P_finish (43, [l0, l1], .inl (w 15 11) :: st, w) Q := cf_w1 rfl
theorem r_P_finish_43 {l0 : Option cf_AV} {x : Int32} {st : List cf_AV} {w : cf_Wd} {Q : cf_Rs → Prop} : cf_wp T_P_finish (43, [l0, some (.inl x)], st, w) Q ↔ cf_wp T_P_finish (44, [l0, some (.inl x)], .inl x :: st, w) Q := cf_w1 rfl
theorem r_P_finish_44 {l0 l1 : Option cf_AV} {x i : Int32} {st : List cf_AV} {w : cf_Wd} {Q : cf_Rs → Prop} : cf_wp T_P_finish (44, [l0, l1], .inl x :: .inl i :: .inr 21 :: st, w) Q ↔ (cf_in i 600 = true ∧ cf_wp T_P_finish (45, [l0, l1], st, (cf_wa w 21 (upd (w 21) i.toNatClampNeg x))) Q) := cf_wg rfl
theorem r_P_finish_45 {l1 : Option cf_AV} {k : Nat} {st : List cf_AV} {w : cf_Wd} {Q : cf_Rs → Prop} : cf_wp T_P_finish (45, [some (.inr k), l1], st, w) Q ↔ cf_wp T_P_finish (46, [some (.inr k), l1], .inr k :: st, w) Q := cf_w1 rfl
theorem r_P_finish_46 {l1 : Option cf_AV} {k : Nat} {st : List cf_AV} {w : cf_Wd} {Q : cf_Rs → Prop} : cf_wp T_P_finish (46, [some (.inr k), l1], st, w) Q ↔ cf_wp T_P_finish (47, [some (.inr k), l1], .inr k :: st, w) Q := cf_w1 rfl
theorem r_P_finish_47 {l0 l1 : Option cf_AV} {st : List cf_AV} {w : cf_Wd} {Q : cf_Rs → Prop} : cf_wp T_P_finish (47, [l0, l1], .inr 15 :: st, w) Q ↔ cf_wp T_P_finish (50, [l0, l1], .inl (w 15 11) :: st, w) Q := cf_w1 rfl
theorem r_P_finish_50 {l0 l1 : Option cf_AV} {st : List cf_AV} {w : cf_Wd} {Q : cf_Rs → Prop} : cf_wp T_P_finish (50, [l0, l1], st, w) Q ↔ cf_wp T_P_finish (51, [l0, l1], .inl 1 :: st, w) Q := cf_w1 rfl
theorem r_P_finish_51 {l0 l1 : Option cf_AV} {x y : Int32} {st : List cf_AV} {w : cf_Wd} {Q : cf_Rs → Prop} : cf_wp T_P_finish (51, [l0, l1], .inl y :: .inl x :: st, w) Q ↔ cf_wp T_P_finish (52, [l0, l1], .inl (x + y) :: st, w) Q := cf_w1 rfl
theorem r_P_finish_52 {l0 l1 : Option cf_AV} {x : Int32} {st : List cf_AV} {w : cf_Wd} {Q : cf_Rs → Prop} : cf_wp T_P_finish (52, [l0, l1], .inl x :: .inr 15 :: st, w) Q ↔ cf_wp T_P_finish (55, [l0, l1], st, (cf_wa w 15 (upd (w 15) 11 x))) Q := cf_w1 rfl
theorem r_P_finish_55 {l1 : Option cf_AV} {k : Nat} {st : List cf_AV} {w : cf_Wd} {Q : cf_Rs → Prop} : cf_wp T_P_finish (55, [some (.inr k), l1], st, w) Q ↔ cf_wp T_P_finish (56, [some (.inr k), l1], .inr k :: st, w) Q := cf_w1 rfl
theorem r_P_finish_56 {l0 l1 : Option cf_AV} {st : List cf_AV} {w : cf_Wd} {Q : cf_Rs → Prop} : cf_wp T_P_finish (56, [l0, l1], st, w) Q ↔ cf_wp T_P_finish (57, [l0, l1], .inl 0 :: st, w) Q := cf_w1 rfl
theorem r_P_finish_57 {l0 l1 : Option cf_AV} {x : Int32} {st : List cf_AV} {w : cf_Wd} {Q : cf_Rs → Prop} : cf_wp T_P_finish (57, [l0, l1], .inl x :: .inr 15 :: st, w) Q ↔ ((x == 0 || x == 1) = true ∧ cf_wp T_P_finish (60, [l0, l1], st, (cf_wa w 15 (upd (w 15) 9 x))) Q) := cf_wg rfl
theorem r_P_finish_60 {l0 : Option cf_AV} {x : Int32} {st : List cf_AV} {w : cf_Wd} {Q : cf_Rs → Prop} : cf_wp T_P_finish (60, [l0, some (.inl x)], st, w) Q ↔ cf_wp T_P_finish (61, [l0, some (.inl x)], .inl x :: st, w) Q := cf_w1 rfl
theorem r_P_finish_61 {l0 l1 : Option cf_AV} {x : Int32} {w : cf_Wd} {P : Int32 → cf_Wd → Prop} : cf_wp T_P_finish (61, [l0, l1], [.inl x], w) (cf_qi P) ↔ P x w := Iff.trans (cf_wr (q := (some (.inl x), w)) rfl) Iff.rfl
theorem e_P_finish {w : cf_Wd} {P : Int32 → cf_Wd → Prop} (h : cf_wp T_P_finish (0, [some (.inr 15), none], [], w) (cf_qi P)) : ∃ x w1, F_P_finish [.inr 15] w = some (some (.inl x), w1) ∧ P x w1 := cf_ei rfl (Nat.le_of_ble_eq_true rfl) h
noncomputable def T_P_crash (pc : Nat) : cf_Rw := bif Nat.ble pc 8 then
 (bif Nat.ble pc 1 then
  (bif Nat.ble pc 0 then
   (bif Nat.beq pc 0 then cf_aload 0 1 else cf_stuck)
   else
   (bif Nat.beq pc 1 then cf_get 5 5 4 else cf_stuck))
  else
  (bif Nat.ble pc 4 then
   (bif Nat.beq pc 4 then cf_ifne 9 7 else cf_stuck)
   else
   (bif Nat.ble pc 7 then
    (bif Nat.beq pc 7 then cf_const 0 8 else cf_stuck)
    else
    (bif Nat.beq pc 8 then cf_iret else cf_stuck))))
 else
 (bif Nat.ble pc 10 then
  (bif Nat.ble pc 9 then
   (bif Nat.beq pc 9 then cf_aload 0 10 else cf_stuck)
   else
   (bif Nat.beq pc 10 then cf_const 0 11 else cf_stuck))
  else
  (bif Nat.ble pc 11 then
   (bif Nat.beq pc 11 then cf_putz 5 9 14 else cf_stuck)
   else
   (bif Nat.ble pc 14 then
    (bif Nat.beq pc 14 then cf_const 1 15 else cf_stuck)
    else
    (bif Nat.beq pc 15 then cf_iret else cf_stuck))))
noncomputable def F_P_crash : List cf_AV → cf_Wd → Option cf_Rs := cf_F T_P_crash 1 (some .boolean) (cf_shV 15 0)
theorem r_P_crash_0 {k : Nat} {st : List cf_AV} {w : cf_Wd} {Q : cf_Rs → Prop} : cf_wp T_P_crash (0, [some (.inr k)], st, w) Q ↔ cf_wp T_P_crash (1, [some (.inr k)], .inr k :: st, w) Q := cf_w1 rfl
theorem r_P_crash_1 {l0 : Option cf_AV} {st : List cf_AV} {w : cf_Wd} {Q : cf_Rs → Prop} : cf_wp T_P_crash (1, [l0], .inr 15 :: st, w) Q ↔ cf_wp T_P_crash (4, [l0], .inl (w 15 5) :: st, w) Q := cf_w1 rfl
theorem r_P_crash_4 {l0 : Option cf_AV} {x : Int32} {st : List cf_AV} {w : cf_Wd} {Q : cf_Rs → Prop} : cf_wp T_P_crash (4, [l0], .inl x :: st, w) Q ↔ (if ¬ x = 0 then cf_wp T_P_crash (9, [l0], st, w) Q else cf_wp T_P_crash (7, [l0], st, w) Q) := cf_wi rfl
theorem r_P_crash_7 {l0 : Option cf_AV} {st : List cf_AV} {w : cf_Wd} {Q : cf_Rs → Prop} : cf_wp T_P_crash (7, [l0], st, w) Q ↔ cf_wp T_P_crash (8, [l0], .inl 0 :: st, w) Q := cf_w1 rfl
theorem r_P_crash_8 {l0 : Option cf_AV} {x : Int32} {w : cf_Wd} {P : Int32 → cf_Wd → Prop} : cf_wp T_P_crash (8, [l0], [.inl x], w) (cf_qb P) ↔ ((x = 0 ∨ x = 1) ∧ P x w) := Iff.trans (cf_wr (q := (some (.inl x), w)) rfl) Iff.rfl
theorem r_P_crash_9 {k : Nat} {st : List cf_AV} {w : cf_Wd} {Q : cf_Rs → Prop} : cf_wp T_P_crash (9, [some (.inr k)], st, w) Q ↔ cf_wp T_P_crash (10, [some (.inr k)], .inr k :: st, w) Q := cf_w1 rfl
theorem r_P_crash_10 {l0 : Option cf_AV} {st : List cf_AV} {w : cf_Wd} {Q : cf_Rs → Prop} : cf_wp T_P_crash (10, [l0], st, w) Q ↔ cf_wp T_P_crash (11, [l0], .inl 0 :: st, w) Q := cf_w1 rfl
theorem r_P_crash_11 {l0 : Option cf_AV} {x : Int32} {st : List cf_AV} {w : cf_Wd} {Q : cf_Rs → Prop} : cf_wp T_P_crash (11, [l0], .inl x :: .inr 15 :: st, w) Q ↔ ((x == 0 || x == 1) = true ∧ cf_wp T_P_crash (14, [l0], st, (cf_wa w 15 (upd (w 15) 9 x))) Q) := cf_wg rfl
theorem r_P_crash_14 {l0 : Option cf_AV} {st : List cf_AV} {w : cf_Wd} {Q : cf_Rs → Prop} : cf_wp T_P_crash (14, [l0], st, w) Q ↔ cf_wp T_P_crash (15, [l0], .inl 1 :: st, w) Q := cf_w1 rfl
theorem r_P_crash_15 {l0 : Option cf_AV} {x : Int32} {w : cf_Wd} {P : Int32 → cf_Wd → Prop} : cf_wp T_P_crash (15, [l0], [.inl x], w) (cf_qb P) ↔ ((x = 0 ∨ x = 1) ∧ P x w) := Iff.trans (cf_wr (q := (some (.inl x), w)) rfl) Iff.rfl
theorem e_P_crash {w : cf_Wd} {P : Int32 → cf_Wd → Prop} (h : cf_wp T_P_crash (0, [some (.inr 15)], [], w) (cf_qb P)) : ∃ x w1, F_P_crash [.inr 15] w = some (some (.inl x), w1) ∧ P x w1 := cf_eb rfl (Nat.le_of_ble_eq_true rfl) h
noncomputable def T_P_journal (pc : Nat) : cf_Rw := bif Nat.ble pc 7 then
 (bif Nat.ble pc 1 then
  (bif Nat.ble pc 0 then
   (bif Nat.beq pc 0 then cf_aload 0 1 else cf_stuck)
   else
   (bif Nat.beq pc 1 then cf_get 5 5 4 else cf_stuck))
  else
  (bif Nat.ble pc 4 then
   (bif Nat.beq pc 4 then cf_ifeq 14 7 else cf_stuck)
   else
   (bif Nat.beq pc 7 then cf_aload 0 8 else cf_stuck)))
 else
 (bif Nat.ble pc 11 then
  (bif Nat.ble pc 8 then
   (bif Nat.beq pc 8 then cf_get 5 11 11 else cf_stuck)
   else
   (bif Nat.beq pc 11 then cf_goto 15 else cf_stuck))
  else
  (bif Nat.ble pc 14 then
   (bif Nat.beq pc 14 then cf_const 0 15 else cf_stuck)
   else
   (bif Nat.beq pc 15 then cf_iret else cf_stuck)))
noncomputable def F_P_journal : List cf_AV → cf_Wd → Option cf_Rs := cf_F T_P_journal 1 (some .int) (cf_shV 15 0)
theorem r_P_journal_0 {k : Nat} {st : List cf_AV} {w : cf_Wd} {Q : cf_Rs → Prop} : cf_wp T_P_journal (0, [some (.inr k)], st, w) Q ↔ cf_wp T_P_journal (1, [some (.inr k)], .inr k :: st, w) Q := cf_w1 rfl
theorem r_P_journal_1 {l0 : Option cf_AV} {st : List cf_AV} {w : cf_Wd} {Q : cf_Rs → Prop} : cf_wp T_P_journal (1, [l0], .inr 15 :: st, w) Q ↔ cf_wp T_P_journal (4, [l0], .inl (w 15 5) :: st, w) Q := cf_w1 rfl
theorem r_P_journal_4 {l0 : Option cf_AV} {x : Int32} {st : List cf_AV} {w : cf_Wd} {Q : cf_Rs → Prop} : cf_wp T_P_journal (4, [l0], .inl x :: st, w) Q ↔ (if x = 0 then cf_wp T_P_journal (14, [l0], st, w) Q else cf_wp T_P_journal (7, [l0], st, w) Q) := cf_wi rfl
theorem r_P_journal_7 {k : Nat} {st : List cf_AV} {w : cf_Wd} {Q : cf_Rs → Prop} : cf_wp T_P_journal (7, [some (.inr k)], st, w) Q ↔ cf_wp T_P_journal (8, [some (.inr k)], .inr k :: st, w) Q := cf_w1 rfl
theorem r_P_journal_8 {l0 : Option cf_AV} {st : List cf_AV} {w : cf_Wd} {Q : cf_Rs → Prop} : cf_wp T_P_journal (8, [l0], .inr 15 :: st, w) Q ↔ cf_wp T_P_journal (11, [l0], .inl (w 15 11) :: st, w) Q := cf_w1 rfl
theorem r_P_journal_11 {l0 : Option cf_AV} {st : List cf_AV} {w : cf_Wd} {Q : cf_Rs → Prop} : cf_wp T_P_journal (11, [l0], st, w) Q ↔ cf_wp T_P_journal (15, [l0], st, w) Q := cf_w1 rfl
theorem r_P_journal_14 {l0 : Option cf_AV} {st : List cf_AV} {w : cf_Wd} {Q : cf_Rs → Prop} : cf_wp T_P_journal (14, [l0], st, w) Q ↔ cf_wp T_P_journal (15, [l0], .inl 0 :: st, w) Q := cf_w1 rfl
theorem r_P_journal_15 {l0 : Option cf_AV} {x : Int32} {w : cf_Wd} {P : Int32 → cf_Wd → Prop} : cf_wp T_P_journal (15, [l0], [.inl x], w) (cf_qi P) ↔ P x w := Iff.trans (cf_wr (q := (some (.inl x), w)) rfl) Iff.rfl
theorem e_P_journal {w : cf_Wd} {P : Int32 → cf_Wd → Prop} (h : cf_wp T_P_journal (0, [some (.inr 15)], [], w) (cf_qi P)) : ∃ x w1, F_P_journal [.inr 15] w = some (some (.inl x), w1) ∧ P x w1 := cf_ei rfl (Nat.le_of_ble_eq_true rfl) h
noncomputable def T_P_entry (pc : Nat) : cf_Rw := bif Nat.ble pc 21 then
 (bif Nat.ble pc 9 then
  (bif Nat.ble pc 4 then
   (bif Nat.ble pc 0 then
    (bif Nat.beq pc 0 then cf_aload 0 1 else cf_stuck)
    else
    (bif Nat.ble pc 1 then
     (bif Nat.beq pc 1 then cf_get 5 5 4 else cf_stuck)
     else
     (bif Nat.beq pc 4 then cf_ifeq 40 7 else cf_stuck)))
   else
   (bif Nat.ble pc 7 then
    (bif Nat.beq pc 7 then cf_iload 1 8 else cf_stuck)
    else
    (bif Nat.ble pc 8 then
     (bif Nat.beq pc 8 then cf_const 0 9 else cf_stuck)
     else
     (bif Nat.beq pc 9 then cf_aload 0 10 else cf_stuck))))
  else
  (bif Nat.ble pc 14 then
   (bif Nat.ble pc 10 then
    (bif Nat.beq pc 10 then cf_get 5 11 13 else cf_stuck)
    else
    (bif Nat.ble pc 13 then
     (bif Nat.beq pc 13 then cf_const 1 14 else cf_stuck)
     else
     (bif Nat.beq pc 14 then cf_bin (fun x y => x - y) 15 else cf_stuck)))
   else
   (bif Nat.ble pc 15 then
    (bif Nat.beq pc 15 then cf_call 3 F_P_in 18 else cf_stuck)
    else
    (bif Nat.ble pc 18 then
     (bif Nat.beq pc 18 then cf_ifeq 40 21 else cf_stuck)
     else
     (bif Nat.beq pc 21 then cf_const 10 23 else cf_stuck)))))
 else
 (bif Nat.ble pc 30 then
  (bif Nat.ble pc 27 then
   (bif Nat.ble pc 23 then
    (bif Nat.beq pc 23 then cf_aload 0 24 else cf_stuck)
    else
    (bif Nat.ble pc 24 then
     (bif Nat.beq pc 24 then cf_get 5 12 27 else cf_stuck)
     else
     (bif Nat.beq pc 27 then cf_iload 1 28 else cf_stuck)))
   else
   (bif Nat.ble pc 28 then
    (bif Nat.beq pc 28 then cf_iald 29 else cf_stuck)
    else
    (bif Nat.ble pc 29 then
     (bif Nat.beq pc 29 then cf_bin (fun x y => x * y) 30 else cf_stuck)
     else
     (bif Nat.beq pc 30 then cf_aload 0 31 else cf_stuck))))
  else
  (bif Nat.ble pc 35 then
   (bif Nat.ble pc 31 then
    (bif Nat.beq pc 31 then cf_get 5 13 34 else cf_stuck)
    else
    (bif Nat.ble pc 34 then
     (bif Nat.beq pc 34 then cf_iload 1 35 else cf_stuck)
     else
     (bif Nat.beq pc 35 then cf_iald 36 else cf_stuck)))
   else
   (bif Nat.ble pc 37 then
    (bif Nat.ble pc 36 then
     (bif Nat.beq pc 36 then cf_bin (fun x y => x + y) 37 else cf_stuck)
     else
     (bif Nat.beq pc 37 then cf_goto 41 else cf_stuck))
    else
    (bif Nat.ble pc 40 then
     (bif Nat.beq pc 40 then cf_const (-1) 41 else cf_stuck)
     else
     (bif Nat.beq pc 41 then cf_iret else cf_stuck)))))
noncomputable def F_P_entry : List cf_AV → cf_Wd → Option cf_Rs := cf_F T_P_entry 2 (some .int) (cf_shV 15 1)
theorem r_P_entry_0 {l1 : Option cf_AV} {k : Nat} {st : List cf_AV} {w : cf_Wd} {Q : cf_Rs → Prop} : cf_wp T_P_entry (0, [some (.inr k), l1], st, w) Q ↔ cf_wp T_P_entry (1, [some (.inr k), l1], .inr k :: st, w) Q := cf_w1 rfl
theorem r_P_entry_1 {l0 l1 : Option cf_AV} {st : List cf_AV} {w : cf_Wd} {Q : cf_Rs → Prop} : cf_wp T_P_entry (1, [l0, l1], .inr 15 :: st, w) Q ↔ cf_wp T_P_entry (4, [l0, l1], .inl (w 15 5) :: st, w) Q := cf_w1 rfl
theorem r_P_entry_4 {l0 l1 : Option cf_AV} {x : Int32} {st : List cf_AV} {w : cf_Wd} {Q : cf_Rs → Prop} : cf_wp T_P_entry (4, [l0, l1], .inl x :: st, w) Q ↔ (if x = 0 then cf_wp T_P_entry (40, [l0, l1], st, w) Q else cf_wp T_P_entry (7, [l0, l1], st, w) Q) := cf_wi rfl
theorem r_P_entry_7 {l0 : Option cf_AV} {x : Int32} {st : List cf_AV} {w : cf_Wd} {Q : cf_Rs → Prop} : cf_wp T_P_entry (7, [l0, some (.inl x)], st, w) Q ↔ cf_wp T_P_entry (8, [l0, some (.inl x)], .inl x :: st, w) Q := cf_w1 rfl
theorem r_P_entry_8 {l0 l1 : Option cf_AV} {st : List cf_AV} {w : cf_Wd} {Q : cf_Rs → Prop} : cf_wp T_P_entry (8, [l0, l1], st, w) Q ↔ cf_wp T_P_entry (9, [l0, l1], .inl 0 :: st, w) Q := cf_w1 rfl
theorem r_P_entry_9 {l1 : Option cf_AV} {k : Nat} {st : List cf_AV} {w : cf_Wd} {Q : cf_Rs → Prop} : cf_wp T_P_entry (9, [some (.inr k), l1], st, w) Q ↔ cf_wp T_P_entry (10, [some (.inr k), l1], .inr k :: st, w) Q := cf_w1 rfl
theorem r_P_entry_10 {l0 l1 : Option cf_AV} {st : List cf_AV} {w : cf_Wd} {Q : cf_Rs → Prop} : cf_wp T_P_entry (10, [l0, l1], .inr 15 :: st, w) Q ↔ cf_wp T_P_entry (13, [l0, l1], .inl (w 15 11) :: st, w) Q := cf_w1 rfl
theorem r_P_entry_13 {l0 l1 : Option cf_AV} {st : List cf_AV} {w : cf_Wd} {Q : cf_Rs → Prop} : cf_wp T_P_entry (13, [l0, l1], st, w) Q ↔ cf_wp T_P_entry (14, [l0, l1], .inl 1 :: st, w) Q := cf_w1 rfl
theorem r_P_entry_14 {l0 l1 : Option cf_AV} {x y : Int32} {st : List cf_AV} {w : cf_Wd} {Q : cf_Rs → Prop} : cf_wp T_P_entry (14, [l0, l1], .inl y :: .inl x :: st, w) Q ↔ cf_wp T_P_entry (15, [l0, l1], .inl (x - y) :: st, w) Q := cf_w1 rfl
theorem r_P_entry_15 {l0 l1 : Option cf_AV} {a2 a1 a0 : Int32} {w : cf_Wd} {Q : cf_Rs → Prop} : cf_wp T_P_entry (15, [l0, l1], [.inl a2, .inl a1, .inl a0], w) Q ↔ ∃ x w1, F_P_in [.inl a0, .inl a1, .inl a2] w = some (some (.inl x), w1) ∧ cf_wp T_P_entry (18, [l0, l1], [.inl x], w1) Q := cf_wci (n := 3) (F := F_P_in) (nx := 18) rfl rfl cf_F_b
theorem c_P_entry_15 {l0 l1 : Option cf_AV} {a2 a1 a0 : Int32} {x1 : Int32} {w1 : cf_Wd} {w : cf_Wd} {Q : cf_Rs → Prop} (hs : F_P_in [.inl a0, .inl a1, .inl a2] w = some (some (.inl x1), w1)) : cf_wp T_P_entry (15, [l0, l1], [.inl a2, .inl a1, .inl a0], w) Q ↔ cf_wp T_P_entry (18, [l0, l1], [.inl x1], w1) Q := r_P_entry_15.trans (cf_xi hs)
theorem r_P_entry_18 {l0 l1 : Option cf_AV} {x : Int32} {st : List cf_AV} {w : cf_Wd} {Q : cf_Rs → Prop} : cf_wp T_P_entry (18, [l0, l1], .inl x :: st, w) Q ↔ (if x = 0 then cf_wp T_P_entry (40, [l0, l1], st, w) Q else cf_wp T_P_entry (21, [l0, l1], st, w) Q) := cf_wi rfl
theorem r_P_entry_21 {l0 l1 : Option cf_AV} {st : List cf_AV} {w : cf_Wd} {Q : cf_Rs → Prop} : cf_wp T_P_entry (21, [l0, l1], st, w) Q ↔ cf_wp T_P_entry (23, [l0, l1], .inl 10 :: st, w) Q := cf_w1 rfl
theorem r_P_entry_23 {l1 : Option cf_AV} {k : Nat} {st : List cf_AV} {w : cf_Wd} {Q : cf_Rs → Prop} : cf_wp T_P_entry (23, [some (.inr k), l1], st, w) Q ↔ cf_wp T_P_entry (24, [some (.inr k), l1], .inr k :: st, w) Q := cf_w1 rfl
theorem r_P_entry_24 {l0 l1 : Option cf_AV} {st : List cf_AV} {w : cf_Wd} {Q : cf_Rs → Prop} : cf_wp T_P_entry (24, [l0, l1], .inr 15 :: st, w) Q ↔ cf_wp T_P_entry (27, [l0, l1], .inr 20 :: st, w) Q := cf_w1 rfl
theorem r_P_entry_27 {l0 : Option cf_AV} {x : Int32} {st : List cf_AV} {w : cf_Wd} {Q : cf_Rs → Prop} : cf_wp T_P_entry (27, [l0, some (.inl x)], st, w) Q ↔ cf_wp T_P_entry (28, [l0, some (.inl x)], .inl x :: st, w) Q := cf_w1 rfl
theorem r_P_entry_28 {l0 l1 : Option cf_AV} {i : Int32} {st : List cf_AV} {w : cf_Wd} {Q : cf_Rs → Prop} : cf_wp T_P_entry (28, [l0, l1], .inl i :: .inr 20 :: st, w) Q ↔ (cf_in i 600 = true ∧ cf_wp T_P_entry (29, [l0, l1], .inl (w 20 i.toNatClampNeg) :: st, w) Q) := cf_wg rfl
theorem r_P_entry_29 {l0 l1 : Option cf_AV} {x y : Int32} {st : List cf_AV} {w : cf_Wd} {Q : cf_Rs → Prop} : cf_wp T_P_entry (29, [l0, l1], .inl y :: .inl x :: st, w) Q ↔ cf_wp T_P_entry (30, [l0, l1], .inl (x * y) :: st, w) Q := cf_w1 rfl
theorem r_P_entry_30 {l1 : Option cf_AV} {k : Nat} {st : List cf_AV} {w : cf_Wd} {Q : cf_Rs → Prop} : cf_wp T_P_entry (30, [some (.inr k), l1], st, w) Q ↔ cf_wp T_P_entry (31, [some (.inr k), l1], .inr k :: st, w) Q := cf_w1 rfl
theorem r_P_entry_31 {l0 l1 : Option cf_AV} {st : List cf_AV} {w : cf_Wd} {Q : cf_Rs → Prop} : cf_wp T_P_entry (31, [l0, l1], .inr 15 :: st, w) Q ↔ cf_wp T_P_entry (34, [l0, l1], .inr 21 :: st, w) Q := cf_w1 rfl
theorem r_P_entry_34 {l0 : Option cf_AV} {x : Int32} {st : List cf_AV} {w : cf_Wd} {Q : cf_Rs → Prop} : cf_wp T_P_entry (34, [l0, some (.inl x)], st, w) Q ↔ cf_wp T_P_entry (35, [l0, some (.inl x)], .inl x :: st, w) Q := cf_w1 rfl
theorem r_P_entry_35 {l0 l1 : Option cf_AV} {i : Int32} {st : List cf_AV} {w : cf_Wd} {Q : cf_Rs → Prop} : cf_wp T_P_entry (35, [l0, l1], .inl i :: .inr 21 :: st, w) Q ↔ (cf_in i 600 = true ∧ cf_wp T_P_entry (36, [l0, l1], .inl (w 21 i.toNatClampNeg) :: st, w) Q) := cf_wg rfl
theorem r_P_entry_36 {l0 l1 : Option cf_AV} {x y : Int32} {st : List cf_AV} {w : cf_Wd} {Q : cf_Rs → Prop} : cf_wp T_P_entry (36, [l0, l1], .inl y :: .inl x :: st, w) Q ↔ cf_wp T_P_entry (37, [l0, l1], .inl (x + y) :: st, w) Q := cf_w1 rfl
theorem r_P_entry_37 {l0 l1 : Option cf_AV} {st : List cf_AV} {w : cf_Wd} {Q : cf_Rs → Prop} : cf_wp T_P_entry (37, [l0, l1], st, w) Q ↔ cf_wp T_P_entry (41, [l0, l1], st, w) Q := cf_w1 rfl
theorem r_P_entry_40 {l0 l1 : Option cf_AV} {st : List cf_AV} {w : cf_Wd} {Q : cf_Rs → Prop} : cf_wp T_P_entry (40, [l0, l1], st, w) Q ↔ cf_wp T_P_entry (41, [l0, l1], .inl (-1) :: st, w) Q := cf_w1 rfl
theorem r_P_entry_41 {l0 l1 : Option cf_AV} {x : Int32} {w : cf_Wd} {P : Int32 → cf_Wd → Prop} : cf_wp T_P_entry (41, [l0, l1], [.inl x], w) (cf_qi P) ↔ P x w := Iff.trans (cf_wr (q := (some (.inl x), w)) rfl) Iff.rfl
theorem e_P_entry {a1 : Int32} {w : cf_Wd} {P : Int32 → cf_Wd → Prop} (h : cf_wp T_P_entry (0, [some (.inr 15), some (.inl a1)], [], w) (cf_qi P)) : ∃ x w1, F_P_entry [.inr 15, .inl a1] w = some (some (.inl x), w1) ∧ P x w1 := cf_ei rfl (Nat.le_of_ble_eq_true rfl) h
noncomputable def T_P_state (pc : Nat) : cf_Rw := bif Nat.ble pc 1 then
 (bif Nat.ble pc 0 then
  (bif Nat.beq pc 0 then cf_aload 0 1 else cf_stuck)
  else
  (bif Nat.beq pc 1 then cf_call 1 F_P_work 4 else cf_stuck))
 else
 (bif Nat.ble pc 4 then
  (bif Nat.beq pc 4 then cf_aload 0 5 else cf_stuck)
  else
  (bif Nat.ble pc 5 then
   (bif Nat.beq pc 5 then cf_get 5 18 8 else cf_stuck)
   else
   (bif Nat.beq pc 8 then cf_iret else cf_stuck)))
noncomputable def F_P_state : List cf_AV → cf_Wd → Option cf_Rs := cf_F T_P_state 1 (some .int) (cf_shV 15 0)
theorem r_P_state_0 {k : Nat} {st : List cf_AV} {w : cf_Wd} {Q : cf_Rs → Prop} : cf_wp T_P_state (0, [some (.inr k)], st, w) Q ↔ cf_wp T_P_state (1, [some (.inr k)], .inr k :: st, w) Q := cf_w1 rfl
theorem r_P_state_1 {l0 : Option cf_AV} {w : cf_Wd} {Q : cf_Rs → Prop} : cf_wp T_P_state (1, [l0], [.inr 15], w) Q ↔ ∃ w1, F_P_work [.inr 15] w = some (none, w1) ∧ cf_wp T_P_state (4, [l0], [], w1) Q := cf_wcv (n := 1) (F := F_P_work) (nx := 4) rfl rfl cf_F_v
theorem c_P_state_1 {l0 : Option cf_AV} {w1 : cf_Wd} {w : cf_Wd} {Q : cf_Rs → Prop} (hs : F_P_work [.inr 15] w = some (none, w1)) : cf_wp T_P_state (1, [l0], [.inr 15], w) Q ↔ cf_wp T_P_state (4, [l0], [], w1) Q := r_P_state_1.trans (cf_xv hs)
theorem r_P_state_4 {k : Nat} {st : List cf_AV} {w : cf_Wd} {Q : cf_Rs → Prop} : cf_wp T_P_state (4, [some (.inr k)], st, w) Q ↔ cf_wp T_P_state (5, [some (.inr k)], .inr k :: st, w) Q := cf_w1 rfl
theorem r_P_state_5 {l0 : Option cf_AV} {st : List cf_AV} {w : cf_Wd} {Q : cf_Rs → Prop} : cf_wp T_P_state (5, [l0], .inr 15 :: st, w) Q ↔ cf_wp T_P_state (8, [l0], .inl (w 15 18) :: st, w) Q := cf_w1 rfl
theorem r_P_state_8 {l0 : Option cf_AV} {x : Int32} {w : cf_Wd} {P : Int32 → cf_Wd → Prop} : cf_wp T_P_state (8, [l0], [.inl x], w) (cf_qi P) ↔ P x w := Iff.trans (cf_wr (q := (some (.inl x), w)) rfl) Iff.rfl
theorem e_P_state {w : cf_Wd} {P : Int32 → cf_Wd → Prop} (h : cf_wp T_P_state (0, [some (.inr 15)], [], w) (cf_qi P)) : ∃ x w1, F_P_state [.inr 15] w = some (some (.inl x), w1) ∧ P x w1 := cf_ei rfl (Nat.le_of_ble_eq_true rfl) h
noncomputable def T_P_suspects (pc : Nat) : cf_Rw := bif Nat.ble pc 1 then
 (bif Nat.ble pc 0 then
  (bif Nat.beq pc 0 then cf_aload 0 1 else cf_stuck)
  else
  (bif Nat.beq pc 1 then cf_call 1 F_P_work 4 else cf_stuck))
 else
 (bif Nat.ble pc 4 then
  (bif Nat.beq pc 4 then cf_aload 0 5 else cf_stuck)
  else
  (bif Nat.ble pc 5 then
   (bif Nat.beq pc 5 then cf_get 5 20 8 else cf_stuck)
   else
   (bif Nat.beq pc 8 then cf_iret else cf_stuck)))
noncomputable def F_P_suspects : List cf_AV → cf_Wd → Option cf_Rs := cf_F T_P_suspects 1 (some .int) (cf_shV 15 0)
theorem r_P_suspects_0 {k : Nat} {st : List cf_AV} {w : cf_Wd} {Q : cf_Rs → Prop} : cf_wp T_P_suspects (0, [some (.inr k)], st, w) Q ↔ cf_wp T_P_suspects (1, [some (.inr k)], .inr k :: st, w) Q := cf_w1 rfl
theorem r_P_suspects_1 {l0 : Option cf_AV} {w : cf_Wd} {Q : cf_Rs → Prop} : cf_wp T_P_suspects (1, [l0], [.inr 15], w) Q ↔ ∃ w1, F_P_work [.inr 15] w = some (none, w1) ∧ cf_wp T_P_suspects (4, [l0], [], w1) Q := cf_wcv (n := 1) (F := F_P_work) (nx := 4) rfl rfl cf_F_v
theorem c_P_suspects_1 {l0 : Option cf_AV} {w1 : cf_Wd} {w : cf_Wd} {Q : cf_Rs → Prop} (hs : F_P_work [.inr 15] w = some (none, w1)) : cf_wp T_P_suspects (1, [l0], [.inr 15], w) Q ↔ cf_wp T_P_suspects (4, [l0], [], w1) Q := r_P_suspects_1.trans (cf_xv hs)
theorem r_P_suspects_4 {k : Nat} {st : List cf_AV} {w : cf_Wd} {Q : cf_Rs → Prop} : cf_wp T_P_suspects (4, [some (.inr k)], st, w) Q ↔ cf_wp T_P_suspects (5, [some (.inr k)], .inr k :: st, w) Q := cf_w1 rfl
theorem r_P_suspects_5 {l0 : Option cf_AV} {st : List cf_AV} {w : cf_Wd} {Q : cf_Rs → Prop} : cf_wp T_P_suspects (5, [l0], .inr 15 :: st, w) Q ↔ cf_wp T_P_suspects (8, [l0], .inl (w 15 20) :: st, w) Q := cf_w1 rfl
theorem r_P_suspects_8 {l0 : Option cf_AV} {x : Int32} {w : cf_Wd} {P : Int32 → cf_Wd → Prop} : cf_wp T_P_suspects (8, [l0], [.inl x], w) (cf_qi P) ↔ P x w := Iff.trans (cf_wr (q := (some (.inl x), w)) rfl) Iff.rfl
theorem e_P_suspects {w : cf_Wd} {P : Int32 → cf_Wd → Prop} (h : cf_wp T_P_suspects (0, [some (.inr 15)], [], w) (cf_qi P)) : ∃ x w1, F_P_suspects [.inr 15] w = some (some (.inl x), w1) ∧ P x w1 := cf_ei rfl (Nat.le_of_ble_eq_true rfl) h
noncomputable def T_P_weight (pc : Nat) : cf_Rw := bif Nat.ble pc 9 then
 (bif Nat.ble pc 4 then
  (bif Nat.ble pc 0 then
   (bif Nat.beq pc 0 then cf_aload 0 1 else cf_stuck)
   else
   (bif Nat.ble pc 1 then
    (bif Nat.beq pc 1 then cf_call 1 F_P_work 4 else cf_stuck)
    else
    (bif Nat.beq pc 4 then cf_aload 0 5 else cf_stuck)))
  else
  (bif Nat.ble pc 5 then
   (bif Nat.beq pc 5 then cf_iload 1 6 else cf_stuck)
   else
   (bif Nat.ble pc 6 then
    (bif Nat.beq pc 6 then cf_call 2 F_P_isCommit 9 else cf_stuck)
    else
    (bif Nat.beq pc 9 then cf_ifeq 20 12 else cf_stuck))))
 else
 (bif Nat.ble pc 14 then
  (bif Nat.ble pc 12 then
   (bif Nat.beq pc 12 then cf_aload 0 13 else cf_stuck)
   else
   (bif Nat.ble pc 13 then
    (bif Nat.beq pc 13 then cf_iload 1 14 else cf_stuck)
    else
    (bif Nat.beq pc 14 then cf_call 2 F_P_weightOf 17 else cf_stuck)))
  else
  (bif Nat.ble pc 17 then
   (bif Nat.beq pc 17 then cf_goto 21 else cf_stuck)
   else
   (bif Nat.ble pc 20 then
    (bif Nat.beq pc 20 then cf_const 0 21 else cf_stuck)
    else
    (bif Nat.beq pc 21 then cf_iret else cf_stuck))))
noncomputable def F_P_weight : List cf_AV → cf_Wd → Option cf_Rs := cf_F T_P_weight 2 (some .int) (cf_shV 15 1)
theorem r_P_weight_0 {l1 : Option cf_AV} {k : Nat} {st : List cf_AV} {w : cf_Wd} {Q : cf_Rs → Prop} : cf_wp T_P_weight (0, [some (.inr k), l1], st, w) Q ↔ cf_wp T_P_weight (1, [some (.inr k), l1], .inr k :: st, w) Q := cf_w1 rfl
theorem r_P_weight_1 {l0 l1 : Option cf_AV} {w : cf_Wd} {Q : cf_Rs → Prop} : cf_wp T_P_weight (1, [l0, l1], [.inr 15], w) Q ↔ ∃ w1, F_P_work [.inr 15] w = some (none, w1) ∧ cf_wp T_P_weight (4, [l0, l1], [], w1) Q := cf_wcv (n := 1) (F := F_P_work) (nx := 4) rfl rfl cf_F_v
theorem c_P_weight_1 {l0 l1 : Option cf_AV} {w1 : cf_Wd} {w : cf_Wd} {Q : cf_Rs → Prop} (hs : F_P_work [.inr 15] w = some (none, w1)) : cf_wp T_P_weight (1, [l0, l1], [.inr 15], w) Q ↔ cf_wp T_P_weight (4, [l0, l1], [], w1) Q := r_P_weight_1.trans (cf_xv hs)
theorem r_P_weight_4 {l1 : Option cf_AV} {k : Nat} {st : List cf_AV} {w : cf_Wd} {Q : cf_Rs → Prop} : cf_wp T_P_weight (4, [some (.inr k), l1], st, w) Q ↔ cf_wp T_P_weight (5, [some (.inr k), l1], .inr k :: st, w) Q := cf_w1 rfl
theorem r_P_weight_5 {l0 : Option cf_AV} {x : Int32} {st : List cf_AV} {w : cf_Wd} {Q : cf_Rs → Prop} : cf_wp T_P_weight (5, [l0, some (.inl x)], st, w) Q ↔ cf_wp T_P_weight (6, [l0, some (.inl x)], .inl x :: st, w) Q := cf_w1 rfl
theorem r_P_weight_6 {l0 l1 : Option cf_AV} {a1 : Int32} {w : cf_Wd} {Q : cf_Rs → Prop} : cf_wp T_P_weight (6, [l0, l1], [.inl a1, .inr 15], w) Q ↔ ∃ x w1, F_P_isCommit [.inr 15, .inl a1] w = some (some (.inl x), w1) ∧ cf_wp T_P_weight (9, [l0, l1], [.inl x], w1) Q := cf_wci (n := 2) (F := F_P_isCommit) (nx := 9) rfl rfl cf_F_b
theorem c_P_weight_6 {l0 l1 : Option cf_AV} {a1 : Int32} {x1 : Int32} {w1 : cf_Wd} {w : cf_Wd} {Q : cf_Rs → Prop} (hs : F_P_isCommit [.inr 15, .inl a1] w = some (some (.inl x1), w1)) : cf_wp T_P_weight (6, [l0, l1], [.inl a1, .inr 15], w) Q ↔ cf_wp T_P_weight (9, [l0, l1], [.inl x1], w1) Q := r_P_weight_6.trans (cf_xi hs)
theorem r_P_weight_9 {l0 l1 : Option cf_AV} {x : Int32} {st : List cf_AV} {w : cf_Wd} {Q : cf_Rs → Prop} : cf_wp T_P_weight (9, [l0, l1], .inl x :: st, w) Q ↔ (if x = 0 then cf_wp T_P_weight (20, [l0, l1], st, w) Q else cf_wp T_P_weight (12, [l0, l1], st, w) Q) := cf_wi rfl
theorem r_P_weight_12 {l1 : Option cf_AV} {k : Nat} {st : List cf_AV} {w : cf_Wd} {Q : cf_Rs → Prop} : cf_wp T_P_weight (12, [some (.inr k), l1], st, w) Q ↔ cf_wp T_P_weight (13, [some (.inr k), l1], .inr k :: st, w) Q := cf_w1 rfl
theorem r_P_weight_13 {l0 : Option cf_AV} {x : Int32} {st : List cf_AV} {w : cf_Wd} {Q : cf_Rs → Prop} : cf_wp T_P_weight (13, [l0, some (.inl x)], st, w) Q ↔ cf_wp T_P_weight (14, [l0, some (.inl x)], .inl x :: st, w) Q := cf_w1 rfl
theorem r_P_weight_14 {l0 l1 : Option cf_AV} {a1 : Int32} {w : cf_Wd} {Q : cf_Rs → Prop} : cf_wp T_P_weight (14, [l0, l1], [.inl a1, .inr 15], w) Q ↔ ∃ x w1, F_P_weightOf [.inr 15, .inl a1] w = some (some (.inl x), w1) ∧ cf_wp T_P_weight (17, [l0, l1], [.inl x], w1) Q := cf_wci (n := 2) (F := F_P_weightOf) (nx := 17) rfl rfl cf_F_i
theorem c_P_weight_14 {l0 l1 : Option cf_AV} {a1 : Int32} {x1 : Int32} {w1 : cf_Wd} {w : cf_Wd} {Q : cf_Rs → Prop} (hs : F_P_weightOf [.inr 15, .inl a1] w = some (some (.inl x1), w1)) : cf_wp T_P_weight (14, [l0, l1], [.inl a1, .inr 15], w) Q ↔ cf_wp T_P_weight (17, [l0, l1], [.inl x1], w1) Q := r_P_weight_14.trans (cf_xi hs)
theorem r_P_weight_17 {l0 l1 : Option cf_AV} {st : List cf_AV} {w : cf_Wd} {Q : cf_Rs → Prop} : cf_wp T_P_weight (17, [l0, l1], st, w) Q ↔ cf_wp T_P_weight (21, [l0, l1], st, w) Q := cf_w1 rfl
theorem r_P_weight_20 {l0 l1 : Option cf_AV} {st : List cf_AV} {w : cf_Wd} {Q : cf_Rs → Prop} : cf_wp T_P_weight (20, [l0, l1], st, w) Q ↔ cf_wp T_P_weight (21, [l0, l1], .inl 0 :: st, w) Q := cf_w1 rfl
theorem r_P_weight_21 {l0 l1 : Option cf_AV} {x : Int32} {w : cf_Wd} {P : Int32 → cf_Wd → Prop} : cf_wp T_P_weight (21, [l0, l1], [.inl x], w) (cf_qi P) ↔ P x w := Iff.trans (cf_wr (q := (some (.inl x), w)) rfl) Iff.rfl
theorem e_P_weight {a1 : Int32} {w : cf_Wd} {P : Int32 → cf_Wd → Prop} (h : cf_wp T_P_weight (0, [some (.inr 15), some (.inl a1)], [], w) (cf_qi P)) : ∃ x w1, F_P_weight [.inr 15, .inl a1] w = some (some (.inl x), w1) ∧ P x w1 := cf_ei rfl (Nat.le_of_ble_eq_true rfl) h
noncomputable def T_P_culprit (pc : Nat) : cf_Rw := bif Nat.ble pc 1 then
 (bif Nat.ble pc 0 then
  (bif Nat.beq pc 0 then cf_aload 0 1 else cf_stuck)
  else
  (bif Nat.beq pc 1 then cf_call 1 F_P_work 4 else cf_stuck))
 else
 (bif Nat.ble pc 4 then
  (bif Nat.beq pc 4 then cf_aload 0 5 else cf_stuck)
  else
  (bif Nat.ble pc 5 then
   (bif Nat.beq pc 5 then cf_get 5 21 8 else cf_stuck)
   else
   (bif Nat.beq pc 8 then cf_iret else cf_stuck)))
noncomputable def F_P_culprit : List cf_AV → cf_Wd → Option cf_Rs := cf_F T_P_culprit 1 (some .int) (cf_shV 15 0)
theorem r_P_culprit_0 {k : Nat} {st : List cf_AV} {w : cf_Wd} {Q : cf_Rs → Prop} : cf_wp T_P_culprit (0, [some (.inr k)], st, w) Q ↔ cf_wp T_P_culprit (1, [some (.inr k)], .inr k :: st, w) Q := cf_w1 rfl
theorem r_P_culprit_1 {l0 : Option cf_AV} {w : cf_Wd} {Q : cf_Rs → Prop} : cf_wp T_P_culprit (1, [l0], [.inr 15], w) Q ↔ ∃ w1, F_P_work [.inr 15] w = some (none, w1) ∧ cf_wp T_P_culprit (4, [l0], [], w1) Q := cf_wcv (n := 1) (F := F_P_work) (nx := 4) rfl rfl cf_F_v
theorem c_P_culprit_1 {l0 : Option cf_AV} {w1 : cf_Wd} {w : cf_Wd} {Q : cf_Rs → Prop} (hs : F_P_work [.inr 15] w = some (none, w1)) : cf_wp T_P_culprit (1, [l0], [.inr 15], w) Q ↔ cf_wp T_P_culprit (4, [l0], [], w1) Q := r_P_culprit_1.trans (cf_xv hs)
theorem r_P_culprit_4 {k : Nat} {st : List cf_AV} {w : cf_Wd} {Q : cf_Rs → Prop} : cf_wp T_P_culprit (4, [some (.inr k)], st, w) Q ↔ cf_wp T_P_culprit (5, [some (.inr k)], .inr k :: st, w) Q := cf_w1 rfl
theorem r_P_culprit_5 {l0 : Option cf_AV} {st : List cf_AV} {w : cf_Wd} {Q : cf_Rs → Prop} : cf_wp T_P_culprit (5, [l0], .inr 15 :: st, w) Q ↔ cf_wp T_P_culprit (8, [l0], .inl (w 15 21) :: st, w) Q := cf_w1 rfl
theorem r_P_culprit_8 {l0 : Option cf_AV} {x : Int32} {w : cf_Wd} {P : Int32 → cf_Wd → Prop} : cf_wp T_P_culprit (8, [l0], [.inl x], w) (cf_qi P) ↔ P x w := Iff.trans (cf_wr (q := (some (.inl x), w)) rfl) Iff.rfl
theorem e_P_culprit {w : cf_Wd} {P : Int32 → cf_Wd → Prop} (h : cf_wp T_P_culprit (0, [some (.inr 15)], [], w) (cf_qi P)) : ∃ x w1, F_P_culprit [.inr 15] w = some (some (.inl x), w1) ∧ P x w1 := cf_ei rfl (Nat.le_of_ble_eq_true rfl) h
noncomputable def T_P_reduced (pc : Nat) : cf_Rw := bif Nat.ble pc 1 then
 (bif Nat.ble pc 0 then
  (bif Nat.beq pc 0 then cf_aload 0 1 else cf_stuck)
  else
  (bif Nat.beq pc 1 then cf_call 1 F_P_work 4 else cf_stuck))
 else
 (bif Nat.ble pc 4 then
  (bif Nat.beq pc 4 then cf_aload 0 5 else cf_stuck)
  else
  (bif Nat.ble pc 5 then
   (bif Nat.beq pc 5 then cf_get 5 22 8 else cf_stuck)
   else
   (bif Nat.beq pc 8 then cf_iret else cf_stuck)))
noncomputable def F_P_reduced : List cf_AV → cf_Wd → Option cf_Rs := cf_F T_P_reduced 1 (some .int) (cf_shV 15 0)
theorem r_P_reduced_0 {k : Nat} {st : List cf_AV} {w : cf_Wd} {Q : cf_Rs → Prop} : cf_wp T_P_reduced (0, [some (.inr k)], st, w) Q ↔ cf_wp T_P_reduced (1, [some (.inr k)], .inr k :: st, w) Q := cf_w1 rfl
theorem r_P_reduced_1 {l0 : Option cf_AV} {w : cf_Wd} {Q : cf_Rs → Prop} : cf_wp T_P_reduced (1, [l0], [.inr 15], w) Q ↔ ∃ w1, F_P_work [.inr 15] w = some (none, w1) ∧ cf_wp T_P_reduced (4, [l0], [], w1) Q := cf_wcv (n := 1) (F := F_P_work) (nx := 4) rfl rfl cf_F_v
theorem c_P_reduced_1 {l0 : Option cf_AV} {w1 : cf_Wd} {w : cf_Wd} {Q : cf_Rs → Prop} (hs : F_P_work [.inr 15] w = some (none, w1)) : cf_wp T_P_reduced (1, [l0], [.inr 15], w) Q ↔ cf_wp T_P_reduced (4, [l0], [], w1) Q := r_P_reduced_1.trans (cf_xv hs)
theorem r_P_reduced_4 {k : Nat} {st : List cf_AV} {w : cf_Wd} {Q : cf_Rs → Prop} : cf_wp T_P_reduced (4, [some (.inr k)], st, w) Q ↔ cf_wp T_P_reduced (5, [some (.inr k)], .inr k :: st, w) Q := cf_w1 rfl
theorem r_P_reduced_5 {l0 : Option cf_AV} {st : List cf_AV} {w : cf_Wd} {Q : cf_Rs → Prop} : cf_wp T_P_reduced (5, [l0], .inr 15 :: st, w) Q ↔ cf_wp T_P_reduced (8, [l0], .inl (w 15 22) :: st, w) Q := cf_w1 rfl
theorem r_P_reduced_8 {l0 : Option cf_AV} {x : Int32} {w : cf_Wd} {P : Int32 → cf_Wd → Prop} : cf_wp T_P_reduced (8, [l0], [.inl x], w) (cf_qi P) ↔ P x w := Iff.trans (cf_wr (q := (some (.inl x), w)) rfl) Iff.rfl
theorem e_P_reduced {w : cf_Wd} {P : Int32 → cf_Wd → Prop} (h : cf_wp T_P_reduced (0, [some (.inr 15)], [], w) (cf_qi P)) : ∃ x w1, F_P_reduced [.inr 15] w = some (some (.inl x), w1) ∧ P x w1 := cf_ei rfl (Nat.le_of_ble_eq_true rfl) h
noncomputable def T_P_started (pc : Nat) : cf_Rw := bif Nat.ble pc 0 then
 (bif Nat.beq pc 0 then cf_aload 0 1 else cf_stuck)
 else
 (bif Nat.ble pc 1 then
  (bif Nat.beq pc 1 then cf_get 5 10 4 else cf_stuck)
  else
  (bif Nat.beq pc 4 then cf_iret else cf_stuck))
noncomputable def F_P_started : List cf_AV → cf_Wd → Option cf_Rs := cf_F T_P_started 1 (some .int) (cf_shV 15 0)
theorem r_P_started_0 {k : Nat} {st : List cf_AV} {w : cf_Wd} {Q : cf_Rs → Prop} : cf_wp T_P_started (0, [some (.inr k)], st, w) Q ↔ cf_wp T_P_started (1, [some (.inr k)], .inr k :: st, w) Q := cf_w1 rfl
theorem r_P_started_1 {l0 : Option cf_AV} {st : List cf_AV} {w : cf_Wd} {Q : cf_Rs → Prop} : cf_wp T_P_started (1, [l0], .inr 15 :: st, w) Q ↔ cf_wp T_P_started (4, [l0], .inl (w 15 10) :: st, w) Q := cf_w1 rfl
theorem r_P_started_4 {l0 : Option cf_AV} {x : Int32} {w : cf_Wd} {P : Int32 → cf_Wd → Prop} : cf_wp T_P_started (4, [l0], [.inl x], w) (cf_qi P) ↔ P x w := Iff.trans (cf_wr (q := (some (.inl x), w)) rfl) Iff.rfl
theorem e_P_started {w : cf_Wd} {P : Int32 → cf_Wd → Prop} (h : cf_wp T_P_started (0, [some (.inr 15)], [], w) (cf_qi P)) : ∃ x w1, F_P_started [.inr 15] w = some (some (.inl x), w1) ∧ P x w1 := cf_ei rfl (Nat.le_of_ble_eq_true rfl) h
