set_option maxRecDepth 100000 in
theorem sd_P_askSet (l : Launch) (pc : Nat) : cf_S l (cf_rm 2) prog_7_method_26_code 3 "CulpritFinderModel" pc (T_P_askSet pc) := cf_S_node
 (cf_S_node
  (cf_S_node
   (cf_S_leaf (cf_S_iload_n (j := 1) (by decide +kernel) rfl))
   (cf_S_leaf (cf_S_iload_n (j := 2) (by decide +kernel) rfl)))
  (cf_S_node
   (cf_S_leaf (cf_S_icne (off := 7) (by decide +kernel) (by decide)))
   (cf_S_node
    (cf_S_leaf (cf_S_iconst (n := 2) (by decide +kernel) (by decide)))
    (cf_S_leaf (cf_S_goto (off := 12) (by decide +kernel) (by decide))))))
 (cf_S_node
  (cf_S_node
   (cf_S_leaf (cf_S_aload_n (j := 0) (by decide +kernel) rfl))
   (cf_S_node
    (cf_S_leaf (cf_S_sipush (n := 1000) (by decide +kernel) (by decide +kernel)))
    (cf_S_leaf (cf_S_iload_n (j := 1) (by decide +kernel) rfl))))
  (cf_S_node
   (cf_S_leaf (cf_S_iadd (by decide +kernel)))
   (cf_S_node
    (cf_S_leaf (cf_S_callV (d := 1) (idx := 112) (ct_P_ask l) sh_P_ask rfl (cf_mem 612 (by decide +kernel)) (cf_mem 609 (by decide +kernel)) (cf_mem 611 (by decide +kernel)) (cf_mem 26 (by decide +kernel)) (cf_mem 41 (by decide +kernel)) ⟨⟨by decide +kernel, by decide +kernel⟩, by decide +kernel⟩ ⟨by decide, by decide⟩ (by decide +kernel)))
    (cf_S_leaf (cf_S_iret (by decide +kernel))))))
theorem ct_P_askSet (l : Launch) : ∀ as w q, F_P_askSet as w = some q → cf_Ct l (⟨"CulpritFinderModel", "askSet", "(II)I"⟩ : MethodName) prog_7_method_26_code 3 (some .int) 2 as w q := cf_F_ct (sd_P_askSet l) (by decide)
theorem sh_P_askSet : ∀ as w q, F_P_askSet as w = some q → ∃ (k : Nat) (as' : List cf_AV) (fs : List (Option Nat)), as = .inr k :: as' ∧ as'.length = 2 ∧ cf_shp k = .inr (5, fs) := cf_shV_of rfl
set_option maxRecDepth 100000 in
theorem sd_P_piece (l : Launch) (pc : Nat) : cf_S l (cf_rm 1) prog_7_method_27_code 10 "CulpritFinderModel" pc (T_P_piece pc) := cf_S_node
 (cf_S_node
  (cf_S_node
   (cf_S_node
    (cf_S_node
     (cf_S_node
      (cf_S_leaf (cf_S_iload_n (j := 0) (by decide +kernel) rfl))
      (cf_S_leaf (cf_S_callS (d := 0) (idx := 118) (ct_P_bits l) sh_P_bits (cf_mem 627 (by decide +kernel)) (cf_mem 625 (by decide +kernel)) (cf_mem 626 (by decide +kernel)) (cf_mem 41 (by decide +kernel)) ⟨⟨by decide +kernel, by decide +kernel⟩, by decide +kernel⟩ ⟨by decide, by decide⟩ (by decide +kernel))))
     (cf_S_node
      (cf_S_leaf (cf_S_istore_n (j := 3) (by decide +kernel) rfl (by decide)))
      (cf_S_leaf (cf_S_iload_n (j := 1) (by decide +kernel) rfl))))
    (cf_S_node
     (cf_S_node
      (cf_S_leaf (cf_S_iload_n (j := 3) (by decide +kernel) rfl))
      (cf_S_leaf (cf_S_imul (by decide +kernel))))
     (cf_S_node
      (cf_S_leaf (cf_S_iload_n (j := 2) (by decide +kernel) rfl))
      (cf_S_leaf (cf_S_idiv (by decide +kernel))))))
   (cf_S_node
    (cf_S_node
     (cf_S_node
      (cf_S_leaf (cf_S_istore (by decide +kernel) (by decide)))
      (cf_S_leaf (cf_S_iload_n (j := 1) (by decide +kernel) rfl)))
     (cf_S_node
      (cf_S_leaf (cf_S_iconst (n := 1) (by decide +kernel) (by decide)))
      (cf_S_leaf (cf_S_iadd (by decide +kernel)))))
    (cf_S_node
     (cf_S_node
      (cf_S_leaf (cf_S_iload_n (j := 3) (by decide +kernel) rfl))
      (cf_S_leaf (cf_S_imul (by decide +kernel))))
     (cf_S_node
      (cf_S_leaf (cf_S_iload_n (j := 2) (by decide +kernel) rfl))
      (cf_S_leaf (cf_S_idiv (by decide +kernel)))))))
  (cf_S_node
   (cf_S_node
    (cf_S_node
     (cf_S_node
      (cf_S_leaf (cf_S_istore (by decide +kernel) (by decide)))
      (cf_S_leaf (cf_S_iconst (n := 0) (by decide +kernel) (by decide))))
     (cf_S_node
      (cf_S_leaf (cf_S_istore (by decide +kernel) (by decide)))
      (cf_S_leaf (cf_S_iconst (n := 0) (by decide +kernel) (by decide)))))
    (cf_S_node
     (cf_S_node
      (cf_S_leaf (cf_S_istore (by decide +kernel) (by decide)))
      (cf_S_leaf (cf_S_iconst (n := 0) (by decide +kernel) (by decide))))
     (cf_S_node
      (cf_S_leaf (cf_S_istore (by decide +kernel) (by decide)))
      (cf_S_leaf (cf_S_iload (by decide +kernel))))))
   (cf_S_node
    (cf_S_node
     (cf_S_node
      (cf_S_leaf (cf_S_bipush (n := 8) (by decide +kernel) (by decide +kernel)))
      (cf_S_leaf (cf_S_icge (off := 75) (by decide +kernel) (by decide))))
     (cf_S_node
      (cf_S_leaf (cf_S_iload_n (j := 0) (by decide +kernel) rfl))
      (cf_S_leaf (cf_S_iload (by decide +kernel)))))
    (cf_S_node
     (cf_S_node
      (cf_S_leaf (cf_S_ishr (by decide +kernel)))
      (cf_S_leaf (cf_S_iconst (n := 1) (by decide +kernel) (by decide))))
     (cf_S_node
      (cf_S_leaf (cf_S_iand (by decide +kernel)))
      (cf_S_leaf (cf_S_iconst (n := 1) (by decide +kernel) (by decide))))))))
 (cf_S_node
  (cf_S_node
   (cf_S_node
    (cf_S_node
     (cf_S_node
      (cf_S_leaf (cf_S_icne (off := 7) (by decide +kernel) (by decide)))
      (cf_S_leaf (cf_S_iconst (n := 1) (by decide +kernel) (by decide))))
     (cf_S_node
      (cf_S_leaf (cf_S_goto (off := 4) (by decide +kernel) (by decide)))
      (cf_S_leaf (cf_S_iconst (n := 0) (by decide +kernel) (by decide)))))
    (cf_S_node
     (cf_S_node
      (cf_S_leaf (cf_S_istore (by decide +kernel) (by decide)))
      (cf_S_leaf (cf_S_iload (by decide +kernel))))
     (cf_S_node
      (cf_S_leaf (cf_S_ifeq (off := 27) (by decide +kernel) (by decide)))
      (cf_S_leaf (cf_S_iload (by decide +kernel))))))
   (cf_S_node
    (cf_S_node
     (cf_S_node
      (cf_S_leaf (cf_S_iload (by decide +kernel)))
      (cf_S_leaf (cf_S_iclt (off := 20) (by decide +kernel) (by decide))))
     (cf_S_node
      (cf_S_leaf (cf_S_iload (by decide +kernel)))
      (cf_S_leaf (cf_S_iload (by decide +kernel)))))
    (cf_S_node
     (cf_S_node
      (cf_S_leaf (cf_S_icge (off := 13) (by decide +kernel) (by decide)))
      (cf_S_leaf (cf_S_iload (by decide +kernel))))
     (cf_S_node
      (cf_S_leaf (cf_S_iconst (n := 1) (by decide +kernel) (by decide)))
      (cf_S_leaf (cf_S_iload (by decide +kernel)))))))
  (cf_S_node
   (cf_S_node
    (cf_S_node
     (cf_S_node
      (cf_S_leaf (cf_S_ishl (by decide +kernel)))
      (cf_S_leaf (cf_S_ior (by decide +kernel))))
     (cf_S_node
      (cf_S_leaf (cf_S_goto (off := 5) (by decide +kernel) (by decide)))
      (cf_S_leaf (cf_S_iload (by decide +kernel)))))
    (cf_S_node
     (cf_S_node
      (cf_S_leaf (cf_S_istore (by decide +kernel) (by decide)))
      (cf_S_leaf (cf_S_iload (by decide +kernel))))
     (cf_S_node
      (cf_S_leaf (cf_S_ifeq (off := 10) (by decide +kernel) (by decide)))
      (cf_S_leaf (cf_S_iload (by decide +kernel))))))
   (cf_S_node
    (cf_S_node
     (cf_S_node
      (cf_S_leaf (cf_S_iconst (n := 1) (by decide +kernel) (by decide)))
      (cf_S_leaf (cf_S_iadd (by decide +kernel))))
     (cf_S_node
      (cf_S_leaf (cf_S_goto (off := 5) (by decide +kernel) (by decide)))
      (cf_S_leaf (cf_S_iload (by decide +kernel)))))
    (cf_S_node
     (cf_S_node
      (cf_S_leaf (cf_S_istore (by decide +kernel) (by decide)))
      (cf_S_leaf (cf_S_iinc (n := 1) (by decide +kernel) (by decide) (by decide))))
     (cf_S_node
      (cf_S_leaf (cf_S_goto (off := -76) (by decide +kernel) (by decide)))
      (cf_S_node
       (cf_S_leaf (cf_S_iload (by decide +kernel)))
       (cf_S_leaf (cf_S_iret (by decide +kernel)))))))))
theorem ct_P_piece (l : Launch) : ∀ as w q, F_P_piece as w = some q → cf_Ct l (⟨"CulpritFinderModel", "piece", "(III)I"⟩ : MethodName) prog_7_method_27_code 10 (some .int) 1 as w q := cf_F_ct (sd_P_piece l) (by decide)
theorem sh_P_piece : ∀ as w q, F_P_piece as w = some q → as.length = 3 := cf_shS_of
set_option maxRecDepth 100000 in
theorem sd_P_failing (l : Launch) (pc : Nat) : cf_S l (cf_rm 3) prog_7_method_28_code 7 "CulpritFinderModel" pc (T_P_failing pc) := cf_S_node
 (cf_S_node
  (cf_S_node
   (cf_S_node
    (cf_S_node
     (cf_S_leaf (cf_S_iconst (n := 0) (by decide +kernel) (by decide)))
     (cf_S_leaf (cf_S_istore (by decide +kernel) (by decide))))
    (cf_S_node
     (cf_S_leaf (cf_S_iload (by decide +kernel)))
     (cf_S_node
      (cf_S_leaf (cf_S_iload_n (j := 1) (by decide +kernel) rfl))
      (cf_S_leaf (cf_S_icge (off := 66) (by decide +kernel) (by decide))))))
   (cf_S_node
    (cf_S_node
     (cf_S_leaf (cf_S_aload_n (j := 0) (by decide +kernel) rfl))
     (cf_S_leaf (cf_S_get (T := cf_T5) (N := 24) (idx := 127) rfl (by decide) cf_la5 (cf_mem 484 (by decide +kernel)) (by decide +kernel))))
    (cf_S_node
     (cf_S_leaf (cf_S_iload (by decide +kernel)))
     (cf_S_node
      (cf_S_leaf (cf_S_iload_n (j := 1) (by decide +kernel) rfl))
      (cf_S_leaf (cf_S_callS (d := 1) (idx := 130) (ct_P_piece l) sh_P_piece (cf_mem 642 (by decide +kernel)) (cf_mem 640 (by decide +kernel)) (cf_mem 641 (by decide +kernel)) (cf_mem 41 (by decide +kernel)) ⟨⟨by decide +kernel, by decide +kernel⟩, by decide +kernel⟩ ⟨by decide, by decide⟩ (by decide +kernel)))))))
  (cf_S_node
   (cf_S_node
    (cf_S_node
     (cf_S_leaf (cf_S_istore (by decide +kernel) (by decide)))
     (cf_S_leaf (cf_S_iload_n (j := 2) (by decide +kernel) rfl)))
    (cf_S_node
     (cf_S_leaf (cf_S_ifeq (off := 15) (by decide +kernel) (by decide)))
     (cf_S_node
      (cf_S_leaf (cf_S_aload_n (j := 0) (by decide +kernel) rfl))
      (cf_S_leaf (cf_S_get (T := cf_T5) (N := 24) (idx := 127) rfl (by decide) cf_la5 (cf_mem 484 (by decide +kernel)) (by decide +kernel))))))
   (cf_S_node
    (cf_S_node
     (cf_S_leaf (cf_S_iload (by decide +kernel)))
     (cf_S_leaf (cf_S_iconst (n := -1) (by decide +kernel) (by decide))))
    (cf_S_node
     (cf_S_leaf (cf_S_ixor (by decide +kernel)))
     (cf_S_node
      (cf_S_leaf (cf_S_iand (by decide +kernel)))
      (cf_S_leaf (cf_S_goto (off := 5) (by decide +kernel) (by decide))))))))
 (cf_S_node
  (cf_S_node
   (cf_S_node
    (cf_S_node
     (cf_S_leaf (cf_S_iload (by decide +kernel)))
     (cf_S_leaf (cf_S_istore (by decide +kernel) (by decide))))
    (cf_S_node
     (cf_S_leaf (cf_S_aload_n (j := 0) (by decide +kernel) rfl))
     (cf_S_node
      (cf_S_leaf (cf_S_iload (by decide +kernel)))
      (cf_S_leaf (cf_S_iload_n (j := 3) (by decide +kernel) rfl)))))
   (cf_S_node
    (cf_S_node
     (cf_S_leaf (cf_S_callV (d := 2) (idx := 134) (ct_P_askSet l) sh_P_askSet rfl (cf_mem 646 (by decide +kernel)) (cf_mem 643 (by decide +kernel)) (cf_mem 645 (by decide +kernel)) (cf_mem 33 (by decide +kernel)) (cf_mem 41 (by decide +kernel)) ⟨⟨by decide +kernel, by decide +kernel⟩, by decide +kernel⟩ ⟨by decide, by decide⟩ (by decide +kernel)))
     (cf_S_leaf (cf_S_istore (by decide +kernel) (by decide))))
    (cf_S_node
     (cf_S_leaf (cf_S_iload (by decide +kernel)))
     (cf_S_node
      (cf_S_leaf (cf_S_ifne (off := 5) (by decide +kernel) (by decide)))
      (cf_S_leaf (cf_S_iconst (n := -1) (by decide +kernel) (by decide)))))))
  (cf_S_node
   (cf_S_node
    (cf_S_node
     (cf_S_leaf (cf_S_iret (by decide +kernel)))
     (cf_S_leaf (cf_S_iload (by decide +kernel))))
    (cf_S_node
     (cf_S_leaf (cf_S_iconst (n := 2) (by decide +kernel) (by decide)))
     (cf_S_node
      (cf_S_leaf (cf_S_icne (off := 6) (by decide +kernel) (by decide)))
      (cf_S_leaf (cf_S_iload (by decide +kernel))))))
   (cf_S_node
    (cf_S_node
     (cf_S_leaf (cf_S_iret (by decide +kernel)))
     (cf_S_leaf (cf_S_iinc (n := 1) (by decide +kernel) (by decide) (by decide))))
    (cf_S_node
     (cf_S_leaf (cf_S_goto (off := -66) (by decide +kernel) (by decide)))
     (cf_S_node
      (cf_S_leaf (cf_S_iload_n (j := 1) (by decide +kernel) rfl))
      (cf_S_leaf (cf_S_iret (by decide +kernel))))))))
theorem ct_P_failing (l : Launch) : ∀ as w q, F_P_failing as w = some q → cf_Ct l (⟨"CulpritFinderModel", "failing", "(IZI)I"⟩ : MethodName) prog_7_method_28_code 7 (some .int) 3 as w q := cf_F_ct (sd_P_failing l) (by decide)
theorem sh_P_failing : ∀ as w q, F_P_failing as w = some q → ∃ (k : Nat) (as' : List cf_AV) (fs : List (Option Nat)), as = .inr k :: as' ∧ as'.length = 3 ∧ cf_shp k = .inr (5, fs) := cf_shV_of rfl
set_option maxRecDepth 100000 in
theorem sd_P_reduce (l : Launch) (pc : Nat) : cf_S l (cf_rm 4) prog_7_method_29_code 5 "CulpritFinderModel" pc (T_P_reduce pc) := cf_S_node
 (cf_S_node
  (cf_S_node
   (cf_S_node
    (cf_S_node
     (cf_S_node
      (cf_S_node
       (cf_S_leaf (cf_S_iconst (n := 0) (by decide +kernel) (by decide)))
       (cf_S_leaf (cf_S_istore_n (j := 1) (by decide +kernel) rfl (by decide))))
      (cf_S_node
       (cf_S_leaf (cf_S_iconst (n := 0) (by decide +kernel) (by decide)))
       (cf_S_leaf (cf_S_istore_n (j := 2) (by decide +kernel) rfl (by decide)))))
     (cf_S_node
      (cf_S_node
       (cf_S_leaf (cf_S_iload_n (j := 2) (by decide +kernel) rfl))
       (cf_S_leaf (cf_S_bipush (n := 8) (by decide +kernel) (by decide +kernel))))
      (cf_S_node
       (cf_S_leaf (cf_S_icge (off := 55) (by decide +kernel) (by decide)))
       (cf_S_leaf (cf_S_aload_n (j := 0) (by decide +kernel) rfl)))))
    (cf_S_node
     (cf_S_node
      (cf_S_node
       (cf_S_leaf (cf_S_get (T := cf_T5) (N := 24) (idx := 16) rfl (by decide) cf_la5 (cf_mem 465 (by decide +kernel)) (by decide +kernel)))
       (cf_S_leaf (cf_S_bipush (n := 8) (by decide +kernel) (by decide +kernel))))
      (cf_S_node
       (cf_S_leaf (cf_S_aload_n (j := 0) (by decide +kernel) rfl))
       (cf_S_leaf (cf_S_get (T := cf_T5) (N := 24) (idx := 87) rfl (by decide) cf_la5 (cf_mem 483 (by decide +kernel)) (by decide +kernel)))))
     (cf_S_node
      (cf_S_node
       (cf_S_leaf (cf_S_imul (by decide +kernel)))
       (cf_S_leaf (cf_S_iload_n (j := 2) (by decide +kernel) rfl)))
      (cf_S_node
       (cf_S_leaf (cf_S_iadd (by decide +kernel)))
       (cf_S_leaf (cf_S_iald (by decide +kernel)))))))
   (cf_S_node
    (cf_S_node
     (cf_S_node
      (cf_S_node
       (cf_S_leaf (cf_S_aload_n (j := 0) (by decide +kernel) rfl))
       (cf_S_leaf (cf_S_get (T := cf_T5) (N := 24) (idx := 16) rfl (by decide) cf_la5 (cf_mem 465 (by decide +kernel)) (by decide +kernel))))
      (cf_S_node
       (cf_S_leaf (cf_S_bipush (n := 8) (by decide +kernel) (by decide +kernel)))
       (cf_S_leaf (cf_S_aload_n (j := 0) (by decide +kernel) rfl))))
     (cf_S_node
      (cf_S_node
       (cf_S_leaf (cf_S_get (T := cf_T5) (N := 24) (idx := 7) rfl (by decide) cf_la5 (cf_mem 463 (by decide +kernel)) (by decide +kernel)))
       (cf_S_leaf (cf_S_aload_n (j := 0) (by decide +kernel) rfl)))
      (cf_S_node
       (cf_S_leaf (cf_S_get (T := cf_T5) (N := 24) (idx := 87) rfl (by decide) cf_la5 (cf_mem 483 (by decide +kernel)) (by decide +kernel)))
       (cf_S_leaf (cf_S_iald (by decide +kernel))))))
    (cf_S_node
     (cf_S_node
      (cf_S_node
       (cf_S_leaf (cf_S_imul (by decide +kernel)))
       (cf_S_leaf (cf_S_iload_n (j := 2) (by decide +kernel) rfl)))
      (cf_S_node
       (cf_S_leaf (cf_S_iadd (by decide +kernel)))
       (cf_S_leaf (cf_S_iald (by decide +kernel)))))
     (cf_S_node
      (cf_S_node
       (cf_S_leaf (cf_S_iceq (off := 11) (by decide +kernel) (by decide)))
       (cf_S_leaf (cf_S_iload_n (j := 1) (by decide +kernel) rfl)))
      (cf_S_node
       (cf_S_leaf (cf_S_iconst (n := 1) (by decide +kernel) (by decide)))
       (cf_S_node
        (cf_S_leaf (cf_S_iload_n (j := 2) (by decide +kernel) rfl))
        (cf_S_leaf (cf_S_ishl (by decide +kernel)))))))))
  (cf_S_node
   (cf_S_node
    (cf_S_node
     (cf_S_node
      (cf_S_node
       (cf_S_leaf (cf_S_ior (by decide +kernel)))
       (cf_S_leaf (cf_S_goto (off := 4) (by decide +kernel) (by decide))))
      (cf_S_node
       (cf_S_leaf (cf_S_iload_n (j := 1) (by decide +kernel) rfl))
       (cf_S_leaf (cf_S_istore_n (j := 1) (by decide +kernel) rfl (by decide)))))
     (cf_S_node
      (cf_S_node
       (cf_S_leaf (cf_S_iinc (n := 1) (by decide +kernel) (by decide) (by decide)))
       (cf_S_leaf (cf_S_goto (off := -55) (by decide +kernel) (by decide))))
      (cf_S_node
       (cf_S_leaf (cf_S_aload_n (j := 0) (by decide +kernel) rfl))
       (cf_S_leaf (cf_S_iload_n (j := 1) (by decide +kernel) rfl)))))
    (cf_S_node
     (cf_S_node
      (cf_S_node
       (cf_S_leaf (cf_S_put (T := cf_T5) (N := 24) (idx := 127) (tT := cf_y5) rfl (by decide) cf_la5 cf_ty5 cf_nm5 rfl (by decide +kernel) (cf_mem 484 (by decide +kernel)) (by decide +kernel)))
       (cf_S_leaf (cf_S_iconst (n := 2) (by decide +kernel) (by decide))))
      (cf_S_node
       (cf_S_leaf (cf_S_istore_n (j := 2) (by decide +kernel) rfl (by decide)))
       (cf_S_leaf (cf_S_aload_n (j := 0) (by decide +kernel) rfl))))
     (cf_S_node
      (cf_S_node
       (cf_S_leaf (cf_S_get (T := cf_T5) (N := 24) (idx := 127) rfl (by decide) cf_la5 (cf_mem 484 (by decide +kernel)) (by decide +kernel)))
       (cf_S_leaf (cf_S_callS (d := 0) (idx := 118) (ct_P_bits l) sh_P_bits (cf_mem 627 (by decide +kernel)) (cf_mem 625 (by decide +kernel)) (cf_mem 626 (by decide +kernel)) (cf_mem 41 (by decide +kernel)) ⟨⟨by decide +kernel, by decide +kernel⟩, by decide +kernel⟩ ⟨by decide, by decide⟩ (by decide +kernel))))
      (cf_S_node
       (cf_S_leaf (cf_S_iconst (n := 1) (by decide +kernel) (by decide)))
       (cf_S_node
        (cf_S_leaf (cf_S_icle (off := 136) (by decide +kernel) (by decide)))
        (cf_S_leaf (cf_S_aload_n (j := 0) (by decide +kernel) rfl)))))))
   (cf_S_node
    (cf_S_node
     (cf_S_node
      (cf_S_node
       (cf_S_leaf (cf_S_iload_n (j := 2) (by decide +kernel) rfl))
       (cf_S_leaf (cf_S_iconst (n := 0) (by decide +kernel) (by decide))))
      (cf_S_node
       (cf_S_leaf (cf_S_iload_n (j := 1) (by decide +kernel) rfl))
       (cf_S_leaf (cf_S_callV (d := 3) (idx := 137) (ct_P_failing l) sh_P_failing rfl (cf_mem 639 (by decide +kernel)) (cf_mem 636 (by decide +kernel)) (cf_mem 638 (by decide +kernel)) (cf_mem 32 (by decide +kernel)) (cf_mem 41 (by decide +kernel)) ⟨⟨by decide +kernel, by decide +kernel⟩, by decide +kernel⟩ ⟨by decide, by decide⟩ (by decide +kernel)))))
     (cf_S_node
      (cf_S_node
       (cf_S_leaf (cf_S_istore_n (j := 3) (by decide +kernel) rfl (by decide)))
       (cf_S_leaf (cf_S_iload_n (j := 3) (by decide +kernel) rfl)))
      (cf_S_node
       (cf_S_leaf (cf_S_ifge (off := 4) (by decide +kernel) (by decide)))
       (cf_S_leaf (cf_S_vret (by decide +kernel))))))
    (cf_S_node
     (cf_S_node
      (cf_S_node
       (cf_S_leaf (cf_S_iload_n (j := 3) (by decide +kernel) rfl))
       (cf_S_leaf (cf_S_iload_n (j := 2) (by decide +kernel) rfl)))
      (cf_S_node
       (cf_S_leaf (cf_S_icge (off := 21) (by decide +kernel) (by decide)))
       (cf_S_leaf (cf_S_aload_n (j := 0) (by decide +kernel) rfl))))
     (cf_S_node
      (cf_S_node
       (cf_S_leaf (cf_S_aload_n (j := 0) (by decide +kernel) rfl))
       (cf_S_leaf (cf_S_get (T := cf_T5) (N := 24) (idx := 127) rfl (by decide) cf_la5 (cf_mem 484 (by decide +kernel)) (by decide +kernel))))
      (cf_S_node
       (cf_S_leaf (cf_S_iload_n (j := 3) (by decide +kernel) rfl))
       (cf_S_node
        (cf_S_leaf (cf_S_iload_n (j := 2) (by decide +kernel) rfl))
        (cf_S_leaf (cf_S_callS (d := 1) (idx := 130) (ct_P_piece l) sh_P_piece (cf_mem 642 (by decide +kernel)) (cf_mem 640 (by decide +kernel)) (cf_mem 641 (by decide +kernel)) (cf_mem 41 (by decide +kernel)) ⟨⟨by decide +kernel, by decide +kernel⟩, by decide +kernel⟩ ⟨by decide, by decide⟩ (by decide +kernel))))))))))
 (cf_S_node
  (cf_S_node
   (cf_S_node
    (cf_S_node
     (cf_S_node
      (cf_S_node
       (cf_S_leaf (cf_S_put (T := cf_T5) (N := 24) (idx := 127) (tT := cf_y5) rfl (by decide) cf_la5 cf_ty5 cf_nm5 rfl (by decide +kernel) (cf_mem 484 (by decide +kernel)) (by decide +kernel)))
       (cf_S_leaf (cf_S_iconst (n := 2) (by decide +kernel) (by decide))))
      (cf_S_node
       (cf_S_leaf (cf_S_istore_n (j := 2) (by decide +kernel) rfl (by decide)))
       (cf_S_leaf (cf_S_goto (off := 97) (by decide +kernel) (by decide)))))
     (cf_S_node
      (cf_S_node
       (cf_S_leaf (cf_S_aload_n (j := 0) (by decide +kernel) rfl))
       (cf_S_leaf (cf_S_iload_n (j := 2) (by decide +kernel) rfl)))
      (cf_S_node
       (cf_S_leaf (cf_S_iconst (n := 1) (by decide +kernel) (by decide)))
       (cf_S_leaf (cf_S_iload_n (j := 1) (by decide +kernel) rfl)))))
    (cf_S_node
     (cf_S_node
      (cf_S_node
       (cf_S_leaf (cf_S_callV (d := 3) (idx := 137) (ct_P_failing l) sh_P_failing rfl (cf_mem 639 (by decide +kernel)) (cf_mem 636 (by decide +kernel)) (cf_mem 638 (by decide +kernel)) (cf_mem 32 (by decide +kernel)) (cf_mem 41 (by decide +kernel)) ⟨⟨by decide +kernel, by decide +kernel⟩, by decide +kernel⟩ ⟨by decide, by decide⟩ (by decide +kernel)))
       (cf_S_leaf (cf_S_istore_n (j := 3) (by decide +kernel) rfl (by decide))))
      (cf_S_node
       (cf_S_leaf (cf_S_iload_n (j := 3) (by decide +kernel) rfl))
       (cf_S_leaf (cf_S_ifge (off := 4) (by decide +kernel) (by decide)))))
     (cf_S_node
      (cf_S_node
       (cf_S_leaf (cf_S_vret (by decide +kernel)))
       (cf_S_leaf (cf_S_iload_n (j := 3) (by decide +kernel) rfl)))
      (cf_S_node
       (cf_S_leaf (cf_S_iload_n (j := 2) (by decide +kernel) rfl))
       (cf_S_leaf (cf_S_icge (off := 41) (by decide +kernel) (by decide)))))))
   (cf_S_node
    (cf_S_node
     (cf_S_node
      (cf_S_node
       (cf_S_leaf (cf_S_aload_n (j := 0) (by decide +kernel) rfl))
       (cf_S_leaf (cf_S_aload_n (j := 0) (by decide +kernel) rfl)))
      (cf_S_node
       (cf_S_leaf (cf_S_get (T := cf_T5) (N := 24) (idx := 127) rfl (by decide) cf_la5 (cf_mem 484 (by decide +kernel)) (by decide +kernel)))
       (cf_S_leaf (cf_S_aload_n (j := 0) (by decide +kernel) rfl))))
     (cf_S_node
      (cf_S_node
       (cf_S_leaf (cf_S_get (T := cf_T5) (N := 24) (idx := 127) rfl (by decide) cf_la5 (cf_mem 484 (by decide +kernel)) (by decide +kernel)))
       (cf_S_leaf (cf_S_iload_n (j := 3) (by decide +kernel) rfl)))
      (cf_S_node
       (cf_S_leaf (cf_S_iload_n (j := 2) (by decide +kernel) rfl))
       (cf_S_leaf (cf_S_callS (d := 1) (idx := 130) (ct_P_piece l) sh_P_piece (cf_mem 642 (by decide +kernel)) (cf_mem 640 (by decide +kernel)) (cf_mem 641 (by decide +kernel)) (cf_mem 41 (by decide +kernel)) ⟨⟨by decide +kernel, by decide +kernel⟩, by decide +kernel⟩ ⟨by decide, by decide⟩ (by decide +kernel))))))
    (cf_S_node
     (cf_S_node
      (cf_S_node
       (cf_S_leaf (cf_S_iconst (n := -1) (by decide +kernel) (by decide)))
       (cf_S_leaf (cf_S_ixor (by decide +kernel))))
      (cf_S_node
       (cf_S_leaf (cf_S_iand (by decide +kernel)))
       (cf_S_leaf (cf_S_put (T := cf_T5) (N := 24) (idx := 127) (tT := cf_y5) rfl (by decide) cf_la5 cf_ty5 cf_nm5 rfl (by decide +kernel) (cf_mem 484 (by decide +kernel)) (by decide +kernel)))))
     (cf_S_node
      (cf_S_node
       (cf_S_leaf (cf_S_iload_n (j := 2) (by decide +kernel) rfl))
       (cf_S_leaf (cf_S_iconst (n := 1) (by decide +kernel) (by decide))))
      (cf_S_node
       (cf_S_leaf (cf_S_isub (by decide +kernel)))
       (cf_S_node
        (cf_S_leaf (cf_S_iconst (n := 2) (by decide +kernel) (by decide)))
        (cf_S_leaf (cf_S_icle (off := 9) (by decide +kernel) (by decide)))))))))
  (cf_S_node
   (cf_S_node
    (cf_S_node
     (cf_S_node
      (cf_S_node
       (cf_S_leaf (cf_S_iload_n (j := 2) (by decide +kernel) rfl))
       (cf_S_leaf (cf_S_iconst (n := 1) (by decide +kernel) (by decide))))
      (cf_S_node
       (cf_S_leaf (cf_S_isub (by decide +kernel)))
       (cf_S_leaf (cf_S_goto (off := 4) (by decide +kernel) (by decide)))))
     (cf_S_node
      (cf_S_node
       (cf_S_leaf (cf_S_iconst (n := 2) (by decide +kernel) (by decide)))
       (cf_S_leaf (cf_S_istore_n (j := 2) (by decide +kernel) rfl (by decide))))
      (cf_S_node
       (cf_S_leaf (cf_S_goto (off := 41) (by decide +kernel) (by decide)))
       (cf_S_leaf (cf_S_aload_n (j := 0) (by decide +kernel) rfl)))))
    (cf_S_node
     (cf_S_node
      (cf_S_node
       (cf_S_leaf (cf_S_get (T := cf_T5) (N := 24) (idx := 127) rfl (by decide) cf_la5 (cf_mem 484 (by decide +kernel)) (by decide +kernel)))
       (cf_S_leaf (cf_S_callS (d := 0) (idx := 118) (ct_P_bits l) sh_P_bits (cf_mem 627 (by decide +kernel)) (cf_mem 625 (by decide +kernel)) (cf_mem 626 (by decide +kernel)) (cf_mem 41 (by decide +kernel)) ⟨⟨by decide +kernel, by decide +kernel⟩, by decide +kernel⟩ ⟨by decide, by decide⟩ (by decide +kernel))))
      (cf_S_node
       (cf_S_leaf (cf_S_istore (by decide +kernel) (by decide)))
       (cf_S_leaf (cf_S_iload_n (j := 2) (by decide +kernel) rfl))))
     (cf_S_node
      (cf_S_node
       (cf_S_leaf (cf_S_iload (by decide +kernel)))
       (cf_S_leaf (cf_S_iclt (off := 9) (by decide +kernel) (by decide))))
      (cf_S_node
       (cf_S_leaf (cf_S_aload_n (j := 0) (by decide +kernel) rfl))
       (cf_S_node
        (cf_S_leaf (cf_S_iconst (n := 4) (by decide +kernel) (by decide)))
        (cf_S_leaf (cf_S_put (T := cf_T5) (N := 24) (idx := 109) (tT := cf_y5) rfl (by decide) cf_la5 cf_ty5 cf_nm5 rfl (by decide +kernel) (cf_mem 480 (by decide +kernel)) (by decide +kernel))))))))
   (cf_S_node
    (cf_S_node
     (cf_S_node
      (cf_S_node
       (cf_S_leaf (cf_S_vret (by decide +kernel)))
       (cf_S_leaf (cf_S_iconst (n := 2) (by decide +kernel) (by decide))))
      (cf_S_node
       (cf_S_leaf (cf_S_iload_n (j := 2) (by decide +kernel) rfl))
       (cf_S_leaf (cf_S_imul (by decide +kernel)))))
     (cf_S_node
      (cf_S_node
       (cf_S_leaf (cf_S_iload (by decide +kernel)))
       (cf_S_leaf (cf_S_icge (off := 9) (by decide +kernel) (by decide))))
      (cf_S_node
       (cf_S_leaf (cf_S_iconst (n := 2) (by decide +kernel) (by decide)))
       (cf_S_leaf (cf_S_iload_n (j := 2) (by decide +kernel) rfl)))))
    (cf_S_node
     (cf_S_node
      (cf_S_node
       (cf_S_leaf (cf_S_imul (by decide +kernel)))
       (cf_S_leaf (cf_S_goto (off := 5) (by decide +kernel) (by decide))))
      (cf_S_node
       (cf_S_leaf (cf_S_iload (by decide +kernel)))
       (cf_S_leaf (cf_S_istore_n (j := 2) (by decide +kernel) rfl (by decide)))))
     (cf_S_node
      (cf_S_node
       (cf_S_leaf (cf_S_goto (off := -141) (by decide +kernel) (by decide)))
       (cf_S_leaf (cf_S_aload_n (j := 0) (by decide +kernel) rfl)))
      (cf_S_node
       (cf_S_leaf (cf_S_iconst (n := 4) (by decide +kernel) (by decide)))
       (cf_S_node
        (cf_S_leaf (cf_S_put (T := cf_T5) (N := 24) (idx := 109) (tT := cf_y5) rfl (by decide) cf_la5 cf_ty5 cf_nm5 rfl (by decide +kernel) (cf_mem 480 (by decide +kernel)) (by decide +kernel)))
        (cf_S_leaf (cf_S_vret (by decide +kernel))))))))))
theorem ct_P_reduce (l : Launch) : ∀ as w q, F_P_reduce as w = some q → cf_Ct l (⟨"CulpritFinderModel", "reduce", "()V"⟩ : MethodName) prog_7_method_29_code 5 none 4 as w q := cf_F_ct (sd_P_reduce l) (by decide)
theorem sh_P_reduce : ∀ as w q, F_P_reduce as w = some q → ∃ (k : Nat) (as' : List cf_AV) (fs : List (Option Nat)), as = .inr k :: as' ∧ as'.length = 0 ∧ cf_shp k = .inr (5, fs) := cf_shV_of rfl
set_option maxRecDepth 100000 in
theorem sd_P_work (l : Launch) (pc : Nat) : cf_S l (cf_rm 5) prog_7_method_30_code 3 "CulpritFinderModel" pc (T_P_work pc) := cf_S_node
 (cf_S_node
  (cf_S_node
   (cf_S_node
    (cf_S_node
     (cf_S_leaf (cf_S_aload_n (j := 0) (by decide +kernel) rfl))
     (cf_S_node
      (cf_S_leaf (cf_S_iconst (n := 0) (by decide +kernel) (by decide)))
      (cf_S_leaf (cf_S_put (T := cf_T5) (N := 24) (idx := 109) (tT := cf_y5) rfl (by decide) cf_la5 cf_ty5 cf_nm5 rfl (by decide +kernel) (cf_mem 480 (by decide +kernel)) (by decide +kernel)))))
    (cf_S_node
     (cf_S_node
      (cf_S_leaf (cf_S_aload_n (j := 0) (by decide +kernel) rfl))
      (cf_S_leaf (cf_S_iconst (n := -1) (by decide +kernel) (by decide))))
     (cf_S_node
      (cf_S_leaf (cf_S_put (T := cf_T5) (N := 24) (idx := 106) (tT := cf_y5) rfl (by decide) cf_la5 cf_ty5 cf_nm5 rfl (by decide +kernel) (cf_mem 481 (by decide +kernel)) (by decide +kernel)))
      (cf_S_leaf (cf_S_aload_n (j := 0) (by decide +kernel) rfl)))))
   (cf_S_node
    (cf_S_node
     (cf_S_leaf (cf_S_iconst (n := 0) (by decide +kernel) (by decide)))
     (cf_S_node
      (cf_S_leaf (cf_S_put (T := cf_T5) (N := 24) (idx := 115) (tT := cf_y5) rfl (by decide) cf_la5 cf_ty5 cf_nm5 rfl (by decide +kernel) (cf_mem 482 (by decide +kernel)) (by decide +kernel)))
      (cf_S_leaf (cf_S_aload_n (j := 0) (by decide +kernel) rfl))))
    (cf_S_node
     (cf_S_node
      (cf_S_leaf (cf_S_iconst (n := -1) (by decide +kernel) (by decide)))
      (cf_S_leaf (cf_S_put (T := cf_T5) (N := 24) (idx := 87) (tT := cf_y5) rfl (by decide) cf_la5 cf_ty5 cf_nm5 rfl (by decide +kernel) (cf_mem 483 (by decide +kernel)) (by decide +kernel))))
     (cf_S_node
      (cf_S_leaf (cf_S_aload_n (j := 0) (by decide +kernel) rfl))
      (cf_S_leaf (cf_S_iconst (n := -1) (by decide +kernel) (by decide)))))))
  (cf_S_node
   (cf_S_node
    (cf_S_node
     (cf_S_leaf (cf_S_put (T := cf_T5) (N := 24) (idx := 127) (tT := cf_y5) rfl (by decide) cf_la5 cf_ty5 cf_nm5 rfl (by decide +kernel) (cf_mem 484 (by decide +kernel)) (by decide +kernel)))
     (cf_S_node
      (cf_S_leaf (cf_S_aload_n (j := 0) (by decide +kernel) rfl))
      (cf_S_leaf (cf_S_get (T := cf_T5) (N := 24) (idx := 52) rfl (by decide) cf_la5 (cf_mem 467 (by decide +kernel)) (by decide +kernel)))))
    (cf_S_node
     (cf_S_node
      (cf_S_leaf (cf_S_ifeq (off := 17) (by decide +kernel) (by decide)))
      (cf_S_leaf (cf_S_aload_n (j := 0) (by decide +kernel) rfl)))
     (cf_S_node
      (cf_S_leaf (cf_S_callV (d := 2) (idx := 141) (ct_P_ends l) sh_P_ends rfl (cf_mem 608 (by decide +kernel)) (cf_mem 605 (by decide +kernel)) (cf_mem 607 (by decide +kernel)) (cf_mem 25 (by decide +kernel)) (cf_mem 41 (by decide +kernel)) ⟨⟨by decide +kernel, by decide +kernel⟩, by decide +kernel⟩ ⟨by decide, by decide⟩ (by decide +kernel)))
      (cf_S_leaf (cf_S_ifeq (off := 10) (by decide +kernel) (by decide))))))
   (cf_S_node
    (cf_S_node
     (cf_S_node
      (cf_S_leaf (cf_S_aload_n (j := 0) (by decide +kernel) rfl))
      (cf_S_leaf (cf_S_callV (d := 3) (idx := 144) (ct_P_halve l) sh_P_halve rfl (cf_mem 620 (by decide +kernel)) (cf_mem 617 (by decide +kernel)) (cf_mem 619 (by decide +kernel)) (cf_mem 28 (by decide +kernel)) (cf_mem 41 (by decide +kernel)) ⟨⟨by decide +kernel, by decide +kernel⟩, by decide +kernel⟩ ⟨by decide, by decide⟩ (by decide +kernel))))
     (cf_S_node
      (cf_S_leaf (cf_S_ifne (off := 4) (by decide +kernel) (by decide)))
      (cf_S_leaf (cf_S_vret (by decide +kernel)))))
    (cf_S_node
     (cf_S_node
      (cf_S_leaf (cf_S_aload_n (j := 0) (by decide +kernel) rfl))
      (cf_S_leaf (cf_S_get (T := cf_T5) (N := 24) (idx := 7) rfl (by decide) cf_la5 (cf_mem 463 (by decide +kernel)) (by decide +kernel))))
     (cf_S_node
      (cf_S_leaf (cf_S_aload_n (j := 0) (by decide +kernel) rfl))
      (cf_S_leaf (cf_S_get (T := cf_T5) (N := 24) (idx := 87) rfl (by decide) cf_la5 (cf_mem 483 (by decide +kernel)) (by decide +kernel))))))))
 (cf_S_node
  (cf_S_node
   (cf_S_node
    (cf_S_node
     (cf_S_leaf (cf_S_iald (by decide +kernel)))
     (cf_S_node
      (cf_S_leaf (cf_S_istore_n (j := 1) (by decide +kernel) rfl (by decide)))
      (cf_S_leaf (cf_S_iload_n (j := 1) (by decide +kernel) rfl))))
    (cf_S_node
     (cf_S_node
      (cf_S_leaf (cf_S_ifge (off := 9) (by decide +kernel) (by decide)))
      (cf_S_leaf (cf_S_aload_n (j := 0) (by decide +kernel) rfl)))
     (cf_S_node
      (cf_S_leaf (cf_S_iconst (n := 4) (by decide +kernel) (by decide)))
      (cf_S_leaf (cf_S_put (T := cf_T5) (N := 24) (idx := 109) (tT := cf_y5) rfl (by decide) cf_la5 cf_ty5 cf_nm5 rfl (by decide +kernel) (cf_mem 480 (by decide +kernel)) (by decide +kernel))))))
   (cf_S_node
    (cf_S_node
     (cf_S_leaf (cf_S_vret (by decide +kernel)))
     (cf_S_node
      (cf_S_leaf (cf_S_aload_n (j := 0) (by decide +kernel) rfl))
      (cf_S_leaf (cf_S_iload_n (j := 1) (by decide +kernel) rfl))))
    (cf_S_node
     (cf_S_node
      (cf_S_leaf (cf_S_callV (d := 1) (idx := 112) (ct_P_ask l) sh_P_ask rfl (cf_mem 612 (by decide +kernel)) (cf_mem 609 (by decide +kernel)) (cf_mem 611 (by decide +kernel)) (cf_mem 26 (by decide +kernel)) (cf_mem 41 (by decide +kernel)) ⟨⟨by decide +kernel, by decide +kernel⟩, by decide +kernel⟩ ⟨by decide, by decide⟩ (by decide +kernel)))
      (cf_S_leaf (cf_S_istore_n (j := 2) (by decide +kernel) rfl (by decide))))
     (cf_S_node
      (cf_S_leaf (cf_S_iload_n (j := 2) (by decide +kernel) rfl))
      (cf_S_leaf (cf_S_ifne (off := 4) (by decide +kernel) (by decide)))))))
  (cf_S_node
   (cf_S_node
    (cf_S_node
     (cf_S_leaf (cf_S_vret (by decide +kernel)))
     (cf_S_node
      (cf_S_leaf (cf_S_aload_n (j := 0) (by decide +kernel) rfl))
      (cf_S_leaf (cf_S_iload_n (j := 2) (by decide +kernel) rfl))))
    (cf_S_node
     (cf_S_node
      (cf_S_leaf (cf_S_iconst (n := 1) (by decide +kernel) (by decide)))
      (cf_S_leaf (cf_S_icne (off := 7) (by decide +kernel) (by decide))))
     (cf_S_node
      (cf_S_leaf (cf_S_iconst (n := 3) (by decide +kernel) (by decide)))
      (cf_S_leaf (cf_S_goto (off := 4) (by decide +kernel) (by decide))))))
   (cf_S_node
    (cf_S_node
     (cf_S_node
      (cf_S_leaf (cf_S_iconst (n := 4) (by decide +kernel) (by decide)))
      (cf_S_leaf (cf_S_put (T := cf_T5) (N := 24) (idx := 109) (tT := cf_y5) rfl (by decide) cf_la5 cf_ty5 cf_nm5 rfl (by decide +kernel) (cf_mem 480 (by decide +kernel)) (by decide +kernel))))
     (cf_S_node
      (cf_S_leaf (cf_S_iload_n (j := 2) (by decide +kernel) rfl))
      (cf_S_leaf (cf_S_iconst (n := 1) (by decide +kernel) (by decide)))))
    (cf_S_node
     (cf_S_node
      (cf_S_leaf (cf_S_icne (off := 7) (by decide +kernel) (by decide)))
      (cf_S_leaf (cf_S_aload_n (j := 0) (by decide +kernel) rfl)))
     (cf_S_node
      (cf_S_leaf (cf_S_callV (d := 4) (idx := 147) (ct_P_reduce l) sh_P_reduce rfl (cf_mem 635 (by decide +kernel)) (cf_mem 632 (by decide +kernel)) (cf_mem 634 (by decide +kernel)) (cf_mem 31 (by decide +kernel)) (cf_mem 41 (by decide +kernel)) ⟨⟨by decide +kernel, by decide +kernel⟩, by decide +kernel⟩ ⟨by decide, by decide⟩ (by decide +kernel)))
      (cf_S_leaf (cf_S_vret (by decide +kernel))))))))
theorem ct_P_work (l : Launch) : ∀ as w q, F_P_work as w = some q → cf_Ct l (⟨"CulpritFinderModel", "work", "()V"⟩ : MethodName) prog_7_method_30_code 3 none 5 as w q := cf_F_ct (sd_P_work l) (by decide)
theorem sh_P_work : ∀ as w q, F_P_work as w = some q → ∃ (k : Nat) (as' : List cf_AV) (fs : List (Option Nat)), as = .inr k :: as' ∧ as'.length = 0 ∧ cf_shp k = .inr (5, fs) := cf_shV_of rfl
set_option maxRecDepth 100000 in
theorem sd_P_next (l : Launch) (pc : Nat) : cf_S l (cf_rm 6) prog_7_method_31_code 1 "CulpritFinderModel" pc (T_P_next pc) := cf_S_node
 (cf_S_node
  (cf_S_leaf (cf_S_aload_n (j := 0) (by decide +kernel) rfl))
  (cf_S_leaf (cf_S_callV (d := 5) (idx := 150) (ct_P_work l) sh_P_work rfl (cf_mem 604 (by decide +kernel)) (cf_mem 601 (by decide +kernel)) (cf_mem 603 (by decide +kernel)) (cf_mem 24 (by decide +kernel)) (cf_mem 41 (by decide +kernel)) ⟨⟨by decide +kernel, by decide +kernel⟩, by decide +kernel⟩ ⟨by decide, by decide⟩ (by decide +kernel))))
 (cf_S_node
  (cf_S_leaf (cf_S_aload_n (j := 0) (by decide +kernel) rfl))
  (cf_S_node
   (cf_S_leaf (cf_S_get (T := cf_T5) (N := 24) (idx := 106) rfl (by decide) cf_la5 (cf_mem 481 (by decide +kernel)) (by decide +kernel)))
   (cf_S_leaf (cf_S_iret (by decide +kernel)))))
theorem ct_P_next (l : Launch) : ∀ as w q, F_P_next as w = some q → cf_Ct l (⟨"CulpritFinderModel", "next", "()I"⟩ : MethodName) prog_7_method_31_code 1 (some .int) 6 as w q := cf_F_ct (sd_P_next l) (by decide)
theorem sh_P_next : ∀ as w q, F_P_next as w = some q → ∃ (k : Nat) (as' : List cf_AV) (fs : List (Option Nat)), as = .inr k :: as' ∧ as'.length = 0 ∧ cf_shp k = .inr (5, fs) := cf_shV_of rfl
set_option maxRecDepth 100000 in
theorem sd_P_start (l : Launch) (pc : Nat) : cf_S l (cf_rm 6) prog_7_method_32_code 1 "CulpritFinderModel" pc (T_P_start pc) := cf_S_node
 (cf_S_node
  (cf_S_node
   (cf_S_node
    (cf_S_leaf (cf_S_aload_n (j := 0) (by decide +kernel) rfl))
    (cf_S_leaf (cf_S_callV (d := 5) (idx := 150) (ct_P_work l) sh_P_work rfl (cf_mem 604 (by decide +kernel)) (cf_mem 601 (by decide +kernel)) (cf_mem 603 (by decide +kernel)) (cf_mem 24 (by decide +kernel)) (cf_mem 41 (by decide +kernel)) ⟨⟨by decide +kernel, by decide +kernel⟩, by decide +kernel⟩ ⟨by decide, by decide⟩ (by decide +kernel))))
   (cf_S_node
    (cf_S_leaf (cf_S_aload_n (j := 0) (by decide +kernel) rfl))
    (cf_S_node
     (cf_S_leaf (cf_S_get (T := cf_T5) (N := 24) (idx := 106) rfl (by decide) cf_la5 (cf_mem 481 (by decide +kernel)) (by decide +kernel)))
     (cf_S_leaf (cf_S_iflt (off := 10) (by decide +kernel) (by decide))))))
  (cf_S_node
   (cf_S_node
    (cf_S_leaf (cf_S_aload_n (j := 0) (by decide +kernel) rfl))
    (cf_S_leaf (cf_S_get (T := cf_T5) (N := 24) (idx := 96) rfl (by decide) cf_la5 (cf_mem 471 (by decide +kernel)) (by decide +kernel))))
   (cf_S_node
    (cf_S_leaf (cf_S_ifeq (off := 5) (by decide +kernel) (by decide)))
    (cf_S_node
     (cf_S_leaf (cf_S_iconst (n := 0) (by decide +kernel) (by decide)))
     (cf_S_leaf (cf_S_iret (by decide +kernel)))))))
 (cf_S_node
  (cf_S_node
   (cf_S_node
    (cf_S_leaf (cf_S_aload_n (j := 0) (by decide +kernel) rfl))
    (cf_S_leaf (cf_S_iconst (n := 1) (by decide +kernel) (by decide))))
   (cf_S_node
    (cf_S_leaf (cf_S_putz (T := cf_T5) (N := 24) (idx := 96) (tT := cf_y5) rfl (by decide) cf_la5 cf_ty5 cf_nm5 rfl (by decide +kernel) (cf_mem 471 (by decide +kernel)) (by decide +kernel)))
    (cf_S_node
     (cf_S_leaf (cf_S_aload_n (j := 0) (by decide +kernel) rfl))
     (cf_S_leaf (cf_S_aload_n (j := 0) (by decide +kernel) rfl)))))
  (cf_S_node
   (cf_S_node
    (cf_S_leaf (cf_S_get (T := cf_T5) (N := 24) (idx := 153) rfl (by decide) cf_la5 (cf_mem 472 (by decide +kernel)) (by decide +kernel)))
    (cf_S_node
     (cf_S_leaf (cf_S_iconst (n := 1) (by decide +kernel) (by decide)))
     (cf_S_leaf (cf_S_iadd (by decide +kernel)))))
   (cf_S_node
    (cf_S_leaf (cf_S_put (T := cf_T5) (N := 24) (idx := 153) (tT := cf_y5) rfl (by decide) cf_la5 cf_ty5 cf_nm5 rfl (by decide +kernel) (cf_mem 472 (by decide +kernel)) (by decide +kernel)))
    (cf_S_node
     (cf_S_leaf (cf_S_iconst (n := 1) (by decide +kernel) (by decide)))
     (cf_S_leaf (cf_S_iret (by decide +kernel)))))))
theorem ct_P_start (l : Launch) : ∀ as w q, F_P_start as w = some q → cf_Ct l (⟨"CulpritFinderModel", "start", "()Z"⟩ : MethodName) prog_7_method_32_code 1 (some .boolean) 6 as w q := cf_F_ct (sd_P_start l) (by decide)
theorem sh_P_start : ∀ as w q, F_P_start as w = some q → ∃ (k : Nat) (as' : List cf_AV) (fs : List (Option Nat)), as = .inr k :: as' ∧ as'.length = 0 ∧ cf_shp k = .inr (5, fs) := cf_shV_of rfl
set_option maxRecDepth 100000 in
theorem sd_P_finish (l : Launch) (pc : Nat) : cf_S l (cf_rm 6) prog_7_method_33_code 2 "CulpritFinderModel" pc (T_P_finish pc) := cf_S_node
 (cf_S_node
  (cf_S_node
   (cf_S_node
    (cf_S_node
     (cf_S_leaf (cf_S_aload_n (j := 0) (by decide +kernel) rfl))
     (cf_S_leaf (cf_S_get (T := cf_T5) (N := 24) (idx := 96) rfl (by decide) cf_la5 (cf_mem 471 (by decide +kernel)) (by decide +kernel))))
    (cf_S_node
     (cf_S_leaf (cf_S_ifne (off := 5) (by decide +kernel) (by decide)))
     (cf_S_leaf (cf_S_iconst (n := 0) (by decide +kernel) (by decide)))))
   (cf_S_node
    (cf_S_node
     (cf_S_leaf (cf_S_iret (by decide +kernel)))
     (cf_S_leaf (cf_S_aload_n (j := 0) (by decide +kernel) rfl)))
    (cf_S_node
     (cf_S_leaf (cf_S_callV (d := 5) (idx := 150) (ct_P_work l) sh_P_work rfl (cf_mem 604 (by decide +kernel)) (cf_mem 601 (by decide +kernel)) (cf_mem 603 (by decide +kernel)) (cf_mem 24 (by decide +kernel)) (cf_mem 41 (by decide +kernel)) ⟨⟨by decide +kernel, by decide +kernel⟩, by decide +kernel⟩ ⟨by decide, by decide⟩ (by decide +kernel)))
     (cf_S_node
      (cf_S_leaf (cf_S_aload_n (j := 0) (by decide +kernel) rfl))
      (cf_S_leaf (cf_S_aload_n (j := 0) (by decide +kernel) rfl))))))
  (cf_S_node
   (cf_S_node
    (cf_S_node
     (cf_S_leaf (cf_S_get (T := cf_T5) (N := 24) (idx := 106) rfl (by decide) cf_la5 (cf_mem 481 (by decide +kernel)) (by decide +kernel)))
     (cf_S_leaf (cf_S_callV (d := 4) (idx := 156) (ct_P_judge l) sh_P_judge rfl (cf_mem 658 (by decide +kernel)) (cf_mem 655 (by decide +kernel)) (cf_mem 657 (by decide +kernel)) (cf_mem 34 (by decide +kernel)) (cf_mem 41 (by decide +kernel)) ⟨⟨by decide +kernel, by decide +kernel⟩, by decide +kernel⟩ ⟨by decide, by decide⟩ (by decide +kernel))))
    (cf_S_node
     (cf_S_leaf (cf_S_istore_n (j := 1) (by decide +kernel) rfl (by decide)))
     (cf_S_leaf (cf_S_aload_n (j := 0) (by decide +kernel) rfl))))
   (cf_S_node
    (cf_S_node
     (cf_S_leaf (cf_S_get (T := cf_T5) (N := 24) (idx := 22) rfl (by decide) cf_la5 (cf_mem 474 (by decide +kernel)) (by decide +kernel)))
     (cf_S_leaf (cf_S_aload_n (j := 0) (by decide +kernel) rfl)))
    (cf_S_node
     (cf_S_leaf (cf_S_get (T := cf_T5) (N := 24) (idx := 99) rfl (by decide) cf_la5 (cf_mem 473 (by decide +kernel)) (by decide +kernel)))
     (cf_S_node
      (cf_S_leaf (cf_S_aload_n (j := 0) (by decide +kernel) rfl))
      (cf_S_leaf (cf_S_get (T := cf_T5) (N := 24) (idx := 106) rfl (by decide) cf_la5 (cf_mem 481 (by decide +kernel)) (by decide +kernel))))))))
 (cf_S_node
  (cf_S_node
   (cf_S_node
    (cf_S_node
     (cf_S_leaf (cf_S_iast (by decide +kernel)))
     (cf_S_leaf (cf_S_aload_n (j := 0) (by decide +kernel) rfl)))
    (cf_S_node
     (cf_S_leaf (cf_S_get (T := cf_T5) (N := 24) (idx := 25) rfl (by decide) cf_la5 (cf_mem 475 (by decide +kernel)) (by decide +kernel)))
     (cf_S_leaf (cf_S_aload_n (j := 0) (by decide +kernel) rfl))))
   (cf_S_node
    (cf_S_node
     (cf_S_leaf (cf_S_get (T := cf_T5) (N := 24) (idx := 99) rfl (by decide) cf_la5 (cf_mem 473 (by decide +kernel)) (by decide +kernel)))
     (cf_S_leaf (cf_S_iload_n (j := 1) (by decide +kernel) rfl)))
    (cf_S_node
     (cf_S_leaf (cf_S_iast (by decide +kernel)))
     (cf_S_node
      (cf_S_leaf (cf_S_aload_n (j := 0) (by decide +kernel) rfl))
      (cf_S_leaf (cf_S_aload_n (j := 0) (by decide +kernel) rfl))))))
  (cf_S_node
   (cf_S_node
    (cf_S_node
     (cf_S_leaf (cf_S_get (T := cf_T5) (N := 24) (idx := 99) rfl (by decide) cf_la5 (cf_mem 473 (by decide +kernel)) (by decide +kernel)))
     (cf_S_leaf (cf_S_iconst (n := 1) (by decide +kernel) (by decide))))
    (cf_S_node
     (cf_S_leaf (cf_S_iadd (by decide +kernel)))
     (cf_S_leaf (cf_S_put (T := cf_T5) (N := 24) (idx := 99) (tT := cf_y5) rfl (by decide) cf_la5 cf_ty5 cf_nm5 rfl (by decide +kernel) (cf_mem 473 (by decide +kernel)) (by decide +kernel)))))
   (cf_S_node
    (cf_S_node
     (cf_S_leaf (cf_S_aload_n (j := 0) (by decide +kernel) rfl))
     (cf_S_leaf (cf_S_iconst (n := 0) (by decide +kernel) (by decide))))
    (cf_S_node
     (cf_S_leaf (cf_S_putz (T := cf_T5) (N := 24) (idx := 96) (tT := cf_y5) rfl (by decide) cf_la5 cf_ty5 cf_nm5 rfl (by decide +kernel) (cf_mem 471 (by decide +kernel)) (by decide +kernel)))
     (cf_S_node
      (cf_S_leaf (cf_S_iload_n (j := 1) (by decide +kernel) rfl))
      (cf_S_leaf (cf_S_iret (by decide +kernel))))))))
theorem ct_P_finish (l : Launch) : ∀ as w q, F_P_finish as w = some q → cf_Ct l (⟨"CulpritFinderModel", "finish", "()I"⟩ : MethodName) prog_7_method_33_code 2 (some .int) 6 as w q := cf_F_ct (sd_P_finish l) (by decide)
theorem sh_P_finish : ∀ as w q, F_P_finish as w = some q → ∃ (k : Nat) (as' : List cf_AV) (fs : List (Option Nat)), as = .inr k :: as' ∧ as'.length = 0 ∧ cf_shp k = .inr (5, fs) := cf_shV_of rfl
