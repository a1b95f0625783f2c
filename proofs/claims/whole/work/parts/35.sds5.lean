set_option maxRecDepth 100000 in
theorem sd_P_write (l : Launch) (pc : Nat) : cf_S l (cf_rm 2) prog_7_method_5_code 6 "CulpritFinderModel" pc (T_P_write pc) := cf_S_node
 (cf_S_node
  (cf_S_node
   (cf_S_node
    (cf_S_node
     (cf_S_leaf (cf_S_iconst (n := 0) (by decide +kernel) (by decide)))
     (cf_S_node
      (cf_S_leaf (cf_S_istore (by decide +kernel) (by decide)))
      (cf_S_leaf (cf_S_iconst (n := 0) (by decide +kernel) (by decide)))))
    (cf_S_node
     (cf_S_node
      (cf_S_leaf (cf_S_istore (by decide +kernel) (by decide)))
      (cf_S_leaf (cf_S_iload (by decide +kernel))))
     (cf_S_node
      (cf_S_leaf (cf_S_aload_n (j := 0) (by decide +kernel) rfl))
      (cf_S_leaf (cf_S_get (T := cf_T5) (N := 24) (idx := 40) rfl (by decide) cf_la5 (cf_mem 462 (by decide +kernel)) (by decide +kernel))))))
   (cf_S_node
    (cf_S_node
     (cf_S_node
      (cf_S_leaf (cf_S_icge (off := 43) (by decide +kernel) (by decide)))
      (cf_S_leaf (cf_S_iload (by decide +kernel))))
     (cf_S_node
      (cf_S_leaf (cf_S_ifne (off := 25) (by decide +kernel) (by decide)))
      (cf_S_leaf (cf_S_aload_n (j := 0) (by decide +kernel) rfl))))
    (cf_S_node
     (cf_S_node
      (cf_S_leaf (cf_S_get (T := cf_T5) (N := 24) (idx := 7) rfl (by decide) cf_la5 (cf_mem 463 (by decide +kernel)) (by decide +kernel)))
      (cf_S_leaf (cf_S_iload (by decide +kernel))))
     (cf_S_node
      (cf_S_leaf (cf_S_iald (by decide +kernel)))
      (cf_S_leaf (cf_S_iload_n (j := 1) (by decide +kernel) rfl))))))
  (cf_S_node
   (cf_S_node
    (cf_S_node
     (cf_S_leaf (cf_S_iceq (off := 14) (by decide +kernel) (by decide)))
     (cf_S_node
      (cf_S_leaf (cf_S_aload_n (j := 0) (by decide +kernel) rfl))
      (cf_S_leaf (cf_S_get (T := cf_T5) (N := 24) (idx := 13) rfl (by decide) cf_la5 (cf_mem 464 (by decide +kernel)) (by decide +kernel)))))
    (cf_S_node
     (cf_S_node
      (cf_S_leaf (cf_S_iload (by decide +kernel)))
      (cf_S_leaf (cf_S_iald (by decide +kernel))))
     (cf_S_node
      (cf_S_leaf (cf_S_iload_n (j := 1) (by decide +kernel) rfl))
      (cf_S_leaf (cf_S_icne (off := 7) (by decide +kernel) (by decide))))))
   (cf_S_node
    (cf_S_node
     (cf_S_node
      (cf_S_leaf (cf_S_iconst (n := 1) (by decide +kernel) (by decide)))
      (cf_S_leaf (cf_S_goto (off := 4) (by decide +kernel) (by decide))))
     (cf_S_node
      (cf_S_leaf (cf_S_iconst (n := 0) (by decide +kernel) (by decide)))
      (cf_S_leaf (cf_S_istore (by decide +kernel) (by decide)))))
    (cf_S_node
     (cf_S_node
      (cf_S_leaf (cf_S_iinc (n := 1) (by decide +kernel) (by decide) (by decide)))
      (cf_S_leaf (cf_S_goto (off := -46) (by decide +kernel) (by decide))))
     (cf_S_node
      (cf_S_leaf (cf_S_aload_n (j := 0) (by decide +kernel) rfl))
      (cf_S_leaf (cf_S_iload_n (j := 1) (by decide +kernel) rfl)))))))
 (cf_S_node
  (cf_S_node
   (cf_S_node
    (cf_S_node
     (cf_S_leaf (cf_S_callV (d := 1) (idx := 48) (ct_P_isCommit l) sh_P_isCommit rfl (cf_mem 541 (by decide +kernel)) (cf_mem 538 (by decide +kernel)) (cf_mem 540 (by decide +kernel)) (cf_mem 15 (by decide +kernel)) (cf_mem 41 (by decide +kernel)) ⟨⟨by decide +kernel, by decide +kernel⟩, by decide +kernel⟩ ⟨by decide, by decide⟩ (by decide +kernel)))
     (cf_S_node
      (cf_S_leaf (cf_S_ifeq (off := 36) (by decide +kernel) (by decide)))
      (cf_S_leaf (cf_S_iload_n (j := 2) (by decide +kernel) rfl))))
    (cf_S_node
     (cf_S_node
      (cf_S_leaf (cf_S_iconst (n := 0) (by decide +kernel) (by decide)))
      (cf_S_leaf (cf_S_bipush (n := 7) (by decide +kernel) (by decide +kernel))))
     (cf_S_node
      (cf_S_leaf (cf_S_callS (d := 0) (idx := 44) (ct_P_in l) sh_P_in (cf_mem 544 (by decide +kernel)) (cf_mem 542 (by decide +kernel)) (cf_mem 543 (by decide +kernel)) (cf_mem 41 (by decide +kernel)) ⟨⟨by decide +kernel, by decide +kernel⟩, by decide +kernel⟩ ⟨by decide, by decide⟩ (by decide +kernel)))
      (cf_S_leaf (cf_S_ifeq (off := 26) (by decide +kernel) (by decide))))))
   (cf_S_node
    (cf_S_node
     (cf_S_node
      (cf_S_leaf (cf_S_iload_n (j := 3) (by decide +kernel) rfl))
      (cf_S_leaf (cf_S_iconst (n := 0) (by decide +kernel) (by decide))))
     (cf_S_node
      (cf_S_leaf (cf_S_sipush (n := 999) (by decide +kernel) (by decide +kernel)))
      (cf_S_leaf (cf_S_callS (d := 0) (idx := 44) (ct_P_in l) sh_P_in (cf_mem 544 (by decide +kernel)) (cf_mem 542 (by decide +kernel)) (cf_mem 543 (by decide +kernel)) (cf_mem 41 (by decide +kernel)) ⟨⟨by decide +kernel, by decide +kernel⟩, by decide +kernel⟩ ⟨by decide, by decide⟩ (by decide +kernel)))))
    (cf_S_node
     (cf_S_node
      (cf_S_leaf (cf_S_ifeq (off := 15) (by decide +kernel) (by decide)))
      (cf_S_leaf (cf_S_iload (by decide +kernel))))
     (cf_S_node
      (cf_S_leaf (cf_S_ifne (off := 10) (by decide +kernel) (by decide)))
      (cf_S_leaf (cf_S_aload_n (j := 0) (by decide +kernel) rfl))))))
  (cf_S_node
   (cf_S_node
    (cf_S_node
     (cf_S_leaf (cf_S_get (T := cf_T5) (N := 24) (idx := 52) rfl (by decide) cf_la5 (cf_mem 467 (by decide +kernel)) (by decide +kernel)))
     (cf_S_node
      (cf_S_leaf (cf_S_ifeq (off := 5) (by decide +kernel) (by decide)))
      (cf_S_leaf (cf_S_iconst (n := 0) (by decide +kernel) (by decide)))))
    (cf_S_node
     (cf_S_node
      (cf_S_leaf (cf_S_iret (by decide +kernel)))
      (cf_S_leaf (cf_S_aload_n (j := 0) (by decide +kernel) rfl)))
     (cf_S_node
      (cf_S_leaf (cf_S_get (T := cf_T5) (N := 24) (idx := 16) rfl (by decide) cf_la5 (cf_mem 465 (by decide +kernel)) (by decide +kernel)))
      (cf_S_leaf (cf_S_bipush (n := 8) (by decide +kernel) (by decide +kernel))))))
   (cf_S_node
    (cf_S_node
     (cf_S_node
      (cf_S_leaf (cf_S_iload_n (j := 1) (by decide +kernel) rfl))
      (cf_S_leaf (cf_S_imul (by decide +kernel))))
     (cf_S_node
      (cf_S_leaf (cf_S_iload_n (j := 2) (by decide +kernel) rfl))
      (cf_S_leaf (cf_S_iadd (by decide +kernel)))))
    (cf_S_node
     (cf_S_node
      (cf_S_leaf (cf_S_iload_n (j := 3) (by decide +kernel) rfl))
      (cf_S_leaf (cf_S_iast (by decide +kernel))))
     (cf_S_node
      (cf_S_leaf (cf_S_iconst (n := 1) (by decide +kernel) (by decide)))
      (cf_S_leaf (cf_S_iret (by decide +kernel))))))))
theorem ct_P_write (l : Launch) : ∀ as w q, F_P_write as w = some q → cf_Ct l (⟨"CulpritFinderModel", "write", "(III)Z"⟩ : MethodName) prog_7_method_5_code 6 (some .boolean) 2 as w q := cf_F_ct (sd_P_write l) (by decide)
theorem sh_P_write : ∀ as w q, F_P_write as w = some q → ∃ (k : Nat) (as' : List cf_AV) (fs : List (Option Nat)), as = .inr k :: as' ∧ as'.length = 3 ∧ cf_shp k = .inr (5, fs) := cf_shV_of rfl
set_option maxRecDepth 100000 in
theorem sd_P_line (l : Launch) (pc : Nat) : cf_S l (cf_rm 2) prog_7_method_6_code 3 "CulpritFinderModel" pc (T_P_line pc) := cf_S_node
 (cf_S_node
  (cf_S_node
   (cf_S_node
    (cf_S_leaf (cf_S_aload_n (j := 0) (by decide +kernel) rfl))
    (cf_S_leaf (cf_S_iload_n (j := 1) (by decide +kernel) rfl)))
   (cf_S_node
    (cf_S_leaf (cf_S_callV (d := 1) (idx := 48) (ct_P_isCommit l) sh_P_isCommit rfl (cf_mem 541 (by decide +kernel)) (cf_mem 538 (by decide +kernel)) (cf_mem 540 (by decide +kernel)) (cf_mem 15 (by decide +kernel)) (cf_mem 41 (by decide +kernel)) ⟨⟨by decide +kernel, by decide +kernel⟩, by decide +kernel⟩ ⟨by decide, by decide⟩ (by decide +kernel)))
    (cf_S_node
     (cf_S_leaf (cf_S_ifeq (off := 27) (by decide +kernel) (by decide)))
     (cf_S_leaf (cf_S_iload_n (j := 2) (by decide +kernel) rfl)))))
  (cf_S_node
   (cf_S_node
    (cf_S_leaf (cf_S_iconst (n := 0) (by decide +kernel) (by decide)))
    (cf_S_leaf (cf_S_bipush (n := 7) (by decide +kernel) (by decide +kernel))))
   (cf_S_node
    (cf_S_leaf (cf_S_callS (d := 0) (idx := 44) (ct_P_in l) sh_P_in (cf_mem 544 (by decide +kernel)) (cf_mem 542 (by decide +kernel)) (cf_mem 543 (by decide +kernel)) (cf_mem 41 (by decide +kernel)) ⟨⟨by decide +kernel, by decide +kernel⟩, by decide +kernel⟩ ⟨by decide, by decide⟩ (by decide +kernel)))
    (cf_S_node
     (cf_S_leaf (cf_S_ifeq (off := 17) (by decide +kernel) (by decide)))
     (cf_S_leaf (cf_S_aload_n (j := 0) (by decide +kernel) rfl))))))
 (cf_S_node
  (cf_S_node
   (cf_S_node
    (cf_S_leaf (cf_S_get (T := cf_T5) (N := 24) (idx := 16) rfl (by decide) cf_la5 (cf_mem 465 (by decide +kernel)) (by decide +kernel)))
    (cf_S_leaf (cf_S_bipush (n := 8) (by decide +kernel) (by decide +kernel))))
   (cf_S_node
    (cf_S_leaf (cf_S_iload_n (j := 1) (by decide +kernel) rfl))
    (cf_S_node
     (cf_S_leaf (cf_S_imul (by decide +kernel)))
     (cf_S_leaf (cf_S_iload_n (j := 2) (by decide +kernel) rfl)))))
  (cf_S_node
   (cf_S_node
    (cf_S_leaf (cf_S_iadd (by decide +kernel)))
    (cf_S_leaf (cf_S_iald (by decide +kernel))))
   (cf_S_node
    (cf_S_leaf (cf_S_goto (off := 4) (by decide +kernel) (by decide)))
    (cf_S_node
     (cf_S_leaf (cf_S_iconst (n := -1) (by decide +kernel) (by decide)))
     (cf_S_leaf (cf_S_iret (by decide +kernel)))))))
theorem ct_P_line (l : Launch) : ∀ as w q, F_P_line as w = some q → cf_Ct l (⟨"CulpritFinderModel", "line", "(II)I"⟩ : MethodName) prog_7_method_6_code 3 (some .int) 2 as w q := cf_F_ct (sd_P_line l) (by decide)
theorem sh_P_line : ∀ as w q, F_P_line as w = some q → ∃ (k : Nat) (as' : List cf_AV) (fs : List (Option Nat)), as = .inr k :: as' ∧ as'.length = 2 ∧ cf_shp k = .inr (5, fs) := cf_shV_of rfl
set_option maxRecDepth 100000 in
theorem sd_P_operation (l : Launch) (pc : Nat) : cf_S l (cf_rm 0) prog_7_method_7_code 2 "CulpritFinderModel" pc (T_P_operation pc) := cf_S_node
 (cf_S_node
  (cf_S_leaf (cf_S_aload_n (j := 0) (by decide +kernel) rfl))
  (cf_S_node
   (cf_S_leaf (cf_S_get (T := cf_T5) (N := 24) (idx := 28) rfl (by decide) cf_la5 (cf_mem 476 (by decide +kernel)) (by decide +kernel)))
   (cf_S_leaf (cf_S_iload_n (j := 1) (by decide +kernel) rfl))))
 (cf_S_node
  (cf_S_node
   (cf_S_leaf (cf_S_iald (by decide +kernel)))
   (cf_S_leaf (cf_S_bipush (n := 100) (by decide +kernel) (by decide +kernel))))
  (cf_S_node
   (cf_S_leaf (cf_S_idiv (by decide +kernel)))
   (cf_S_leaf (cf_S_iret (by decide +kernel)))))
theorem ct_P_operation (l : Launch) : ∀ as w q, F_P_operation as w = some q → cf_Ct l (⟨"CulpritFinderModel", "operation", "(I)I"⟩ : MethodName) prog_7_method_7_code 2 (some .int) 0 as w q := cf_F_ct (sd_P_operation l) (by decide)
theorem sh_P_operation : ∀ as w q, F_P_operation as w = some q → ∃ (k : Nat) (as' : List cf_AV) (fs : List (Option Nat)), as = .inr k :: as' ∧ as'.length = 1 ∧ cf_shp k = .inr (5, fs) := cf_shV_of rfl
set_option maxRecDepth 100000 in
theorem sd_P_a (l : Launch) (pc : Nat) : cf_S l (cf_rm 0) prog_7_method_8_code 2 "CulpritFinderModel" pc (T_P_a pc) := cf_S_node
 (cf_S_node
  (cf_S_node
   (cf_S_leaf (cf_S_aload_n (j := 0) (by decide +kernel) rfl))
   (cf_S_leaf (cf_S_get (T := cf_T5) (N := 24) (idx := 28) rfl (by decide) cf_la5 (cf_mem 476 (by decide +kernel)) (by decide +kernel))))
  (cf_S_node
   (cf_S_leaf (cf_S_iload_n (j := 1) (by decide +kernel) rfl))
   (cf_S_leaf (cf_S_iald (by decide +kernel)))))
 (cf_S_node
  (cf_S_node
   (cf_S_leaf (cf_S_bipush (n := 10) (by decide +kernel) (by decide +kernel)))
   (cf_S_leaf (cf_S_idiv (by decide +kernel))))
  (cf_S_node
   (cf_S_leaf (cf_S_bipush (n := 10) (by decide +kernel) (by decide +kernel)))
   (cf_S_node
    (cf_S_leaf (cf_S_irem (by decide +kernel)))
    (cf_S_leaf (cf_S_iret (by decide +kernel))))))
theorem ct_P_a (l : Launch) : ∀ as w q, F_P_a as w = some q → cf_Ct l (⟨"CulpritFinderModel", "a", "(I)I"⟩ : MethodName) prog_7_method_8_code 2 (some .int) 0 as w q := cf_F_ct (sd_P_a l) (by decide)
theorem sh_P_a : ∀ as w q, F_P_a as w = some q → ∃ (k : Nat) (as' : List cf_AV) (fs : List (Option Nat)), as = .inr k :: as' ∧ as'.length = 1 ∧ cf_shp k = .inr (5, fs) := cf_shV_of rfl
set_option maxRecDepth 100000 in
theorem sd_P_b (l : Launch) (pc : Nat) : cf_S l (cf_rm 0) prog_7_method_9_code 2 "CulpritFinderModel" pc (T_P_b pc) := cf_S_node
 (cf_S_node
  (cf_S_leaf (cf_S_aload_n (j := 0) (by decide +kernel) rfl))
  (cf_S_node
   (cf_S_leaf (cf_S_get (T := cf_T5) (N := 24) (idx := 28) rfl (by decide) cf_la5 (cf_mem 476 (by decide +kernel)) (by decide +kernel)))
   (cf_S_leaf (cf_S_iload_n (j := 1) (by decide +kernel) rfl))))
 (cf_S_node
  (cf_S_node
   (cf_S_leaf (cf_S_iald (by decide +kernel)))
   (cf_S_leaf (cf_S_bipush (n := 10) (by decide +kernel) (by decide +kernel))))
  (cf_S_node
   (cf_S_leaf (cf_S_irem (by decide +kernel)))
   (cf_S_leaf (cf_S_iret (by decide +kernel)))))
theorem ct_P_b (l : Launch) : ∀ as w q, F_P_b as w = some q → cf_Ct l (⟨"CulpritFinderModel", "b", "(I)I"⟩ : MethodName) prog_7_method_9_code 2 (some .int) 0 as w q := cf_F_ct (sd_P_b l) (by decide)
theorem sh_P_b : ∀ as w q, F_P_b as w = some q → ∃ (k : Nat) (as' : List cf_AV) (fs : List (Option Nat)), as = .inr k :: as' ∧ as'.length = 1 ∧ cf_shp k = .inr (5, fs) := cf_shV_of rfl
set_option maxRecDepth 100000 in
theorem sd_P_pairs (l : Launch) (pc : Nat) : cf_S l (cf_rm 1) prog_7_method_10_code 4 "CulpritFinderModel" pc (T_P_pairs pc) := cf_S_node
 (cf_S_node
  (cf_S_node
   (cf_S_node
    (cf_S_node
     (cf_S_node
      (cf_S_leaf (cf_S_iconst (n := 0) (by decide +kernel) (by decide)))
      (cf_S_leaf (cf_S_istore_n (j := 1) (by decide +kernel) rfl (by decide))))
     (cf_S_node
      (cf_S_leaf (cf_S_iconst (n := 1) (by decide +kernel) (by decide)))
      (cf_S_leaf (cf_S_istore_n (j := 2) (by decide +kernel) rfl (by decide)))))
    (cf_S_node
     (cf_S_node
      (cf_S_leaf (cf_S_iconst (n := 0) (by decide +kernel) (by decide)))
      (cf_S_leaf (cf_S_istore_n (j := 3) (by decide +kernel) rfl (by decide))))
     (cf_S_node
      (cf_S_leaf (cf_S_iload_n (j := 3) (by decide +kernel) rfl))
      (cf_S_node
       (cf_S_leaf (cf_S_bipush (n := 8) (by decide +kernel) (by decide +kernel)))
       (cf_S_leaf (cf_S_icge (off := 100) (by decide +kernel) (by decide)))))))
   (cf_S_node
    (cf_S_node
     (cf_S_node
      (cf_S_leaf (cf_S_aload_n (j := 0) (by decide +kernel) rfl))
      (cf_S_leaf (cf_S_get (T := cf_T5) (N := 24) (idx := 31) rfl (by decide) cf_la5 (cf_mem 477 (by decide +kernel)) (by decide +kernel))))
     (cf_S_node
      (cf_S_leaf (cf_S_iload_n (j := 3) (by decide +kernel) rfl))
      (cf_S_node
       (cf_S_leaf (cf_S_iconst (n := -1) (by decide +kernel) (by decide)))
       (cf_S_leaf (cf_S_iast (by decide +kernel))))))
    (cf_S_node
     (cf_S_node
      (cf_S_leaf (cf_S_aload_n (j := 0) (by decide +kernel) rfl))
      (cf_S_leaf (cf_S_iload_n (j := 3) (by decide +kernel) rfl)))
     (cf_S_node
      (cf_S_leaf (cf_S_callV (d := 0) (idx := 56) (ct_P_operation l) sh_P_operation rfl (cf_mem 572 (by decide +kernel)) (cf_mem 569 (by decide +kernel)) (cf_mem 571 (by decide +kernel)) (cf_mem 19 (by decide +kernel)) (cf_mem 41 (by decide +kernel)) ⟨⟨by decide +kernel, by decide +kernel⟩, by decide +kernel⟩ ⟨by decide, by decide⟩ (by decide +kernel)))
      (cf_S_node
       (cf_S_leaf (cf_S_iconst (n := 4) (by decide +kernel) (by decide)))
       (cf_S_leaf (cf_S_iconst (n := 5) (by decide +kernel) (by decide))))))))
  (cf_S_node
   (cf_S_node
    (cf_S_node
     (cf_S_node
      (cf_S_leaf (cf_S_callS (d := 0) (idx := 44) (ct_P_in l) sh_P_in (cf_mem 544 (by decide +kernel)) (cf_mem 542 (by decide +kernel)) (cf_mem 543 (by decide +kernel)) (cf_mem 41 (by decide +kernel)) ⟨⟨by decide +kernel, by decide +kernel⟩, by decide +kernel⟩ ⟨by decide, by decide⟩ (by decide +kernel)))
      (cf_S_leaf (cf_S_ifeq (off := 14) (by decide +kernel) (by decide))))
     (cf_S_node
      (cf_S_leaf (cf_S_aload_n (j := 0) (by decide +kernel) rfl))
      (cf_S_leaf (cf_S_get (T := cf_T5) (N := 24) (idx := 34) rfl (by decide) cf_la5 (cf_mem 478 (by decide +kernel)) (by decide +kernel)))))
    (cf_S_node
     (cf_S_node
      (cf_S_leaf (cf_S_iload_n (j := 1) (by decide +kernel) rfl))
      (cf_S_leaf (cf_S_iload_n (j := 3) (by decide +kernel) rfl)))
     (cf_S_node
      (cf_S_leaf (cf_S_iast (by decide +kernel)))
      (cf_S_node
       (cf_S_leaf (cf_S_iload_n (j := 1) (by decide +kernel) rfl))
       (cf_S_leaf (cf_S_iconst (n := 1) (by decide +kernel) (by decide)))))))
   (cf_S_node
    (cf_S_node
     (cf_S_node
      (cf_S_leaf (cf_S_iadd (by decide +kernel)))
      (cf_S_leaf (cf_S_istore_n (j := 1) (by decide +kernel) rfl (by decide))))
     (cf_S_node
      (cf_S_leaf (cf_S_aload_n (j := 0) (by decide +kernel) rfl))
      (cf_S_node
       (cf_S_leaf (cf_S_iload_n (j := 3) (by decide +kernel) rfl))
       (cf_S_leaf (cf_S_callV (d := 0) (idx := 56) (ct_P_operation l) sh_P_operation rfl (cf_mem 572 (by decide +kernel)) (cf_mem 569 (by decide +kernel)) (cf_mem 571 (by decide +kernel)) (cf_mem 19 (by decide +kernel)) (cf_mem 41 (by decide +kernel)) ⟨⟨by decide +kernel, by decide +kernel⟩, by decide +kernel⟩ ⟨by decide, by decide⟩ (by decide +kernel))))))
    (cf_S_node
     (cf_S_node
      (cf_S_leaf (cf_S_bipush (n := 6) (by decide +kernel) (by decide +kernel)))
      (cf_S_leaf (cf_S_icne (off := 53) (by decide +kernel) (by decide))))
     (cf_S_node
      (cf_S_leaf (cf_S_iload_n (j := 2) (by decide +kernel) rfl))
      (cf_S_node
       (cf_S_leaf (cf_S_ifeq (off := 11) (by decide +kernel) (by decide)))
       (cf_S_leaf (cf_S_iload_n (j := 1) (by decide +kernel) rfl))))))))
 (cf_S_node
  (cf_S_node
   (cf_S_node
    (cf_S_node
     (cf_S_node
      (cf_S_leaf (cf_S_ifle (off := 7) (by decide +kernel) (by decide)))
      (cf_S_leaf (cf_S_iconst (n := 1) (by decide +kernel) (by decide))))
     (cf_S_node
      (cf_S_leaf (cf_S_goto (off := 4) (by decide +kernel) (by decide)))
      (cf_S_leaf (cf_S_iconst (n := 0) (by decide +kernel) (by decide)))))
    (cf_S_node
     (cf_S_node
      (cf_S_leaf (cf_S_istore_n (j := 2) (by decide +kernel) rfl (by decide)))
      (cf_S_leaf (cf_S_iload_n (j := 1) (by decide +kernel) rfl)))
     (cf_S_node
      (cf_S_leaf (cf_S_ifle (off := 9) (by decide +kernel) (by decide)))
      (cf_S_node
       (cf_S_leaf (cf_S_iload_n (j := 1) (by decide +kernel) rfl))
       (cf_S_leaf (cf_S_iconst (n := 1) (by decide +kernel) (by decide)))))))
   (cf_S_node
    (cf_S_node
     (cf_S_node
      (cf_S_leaf (cf_S_isub (by decide +kernel)))
      (cf_S_leaf (cf_S_goto (off := 4) (by decide +kernel) (by decide))))
     (cf_S_node
      (cf_S_leaf (cf_S_iconst (n := 0) (by decide +kernel) (by decide)))
      (cf_S_node
       (cf_S_leaf (cf_S_istore_n (j := 1) (by decide +kernel) rfl (by decide)))
       (cf_S_leaf (cf_S_aload_n (j := 0) (by decide +kernel) rfl)))))
    (cf_S_node
     (cf_S_node
      (cf_S_leaf (cf_S_get (T := cf_T5) (N := 24) (idx := 31) rfl (by decide) cf_la5 (cf_mem 477 (by decide +kernel)) (by decide +kernel)))
      (cf_S_leaf (cf_S_iload_n (j := 3) (by decide +kernel) rfl)))
     (cf_S_node
      (cf_S_leaf (cf_S_aload_n (j := 0) (by decide +kernel) rfl))
      (cf_S_node
       (cf_S_leaf (cf_S_get (T := cf_T5) (N := 24) (idx := 34) rfl (by decide) cf_la5 (cf_mem 478 (by decide +kernel)) (by decide +kernel)))
       (cf_S_leaf (cf_S_iload_n (j := 1) (by decide +kernel) rfl)))))))
  (cf_S_node
   (cf_S_node
    (cf_S_node
     (cf_S_node
      (cf_S_leaf (cf_S_iald (by decide +kernel)))
      (cf_S_leaf (cf_S_iast (by decide +kernel))))
     (cf_S_node
      (cf_S_leaf (cf_S_aload_n (j := 0) (by decide +kernel) rfl))
      (cf_S_node
       (cf_S_leaf (cf_S_get (T := cf_T5) (N := 24) (idx := 31) rfl (by decide) cf_la5 (cf_mem 477 (by decide +kernel)) (by decide +kernel)))
       (cf_S_leaf (cf_S_aload_n (j := 0) (by decide +kernel) rfl)))))
    (cf_S_node
     (cf_S_node
      (cf_S_leaf (cf_S_get (T := cf_T5) (N := 24) (idx := 34) rfl (by decide) cf_la5 (cf_mem 478 (by decide +kernel)) (by decide +kernel)))
      (cf_S_leaf (cf_S_iload_n (j := 1) (by decide +kernel) rfl)))
     (cf_S_node
      (cf_S_leaf (cf_S_iald (by decide +kernel)))
      (cf_S_node
       (cf_S_leaf (cf_S_iload_n (j := 3) (by decide +kernel) rfl))
       (cf_S_leaf (cf_S_iast (by decide +kernel)))))))
   (cf_S_node
    (cf_S_node
     (cf_S_node
      (cf_S_leaf (cf_S_iinc (n := 1) (by decide +kernel) (by decide) (by decide)))
      (cf_S_leaf (cf_S_goto (off := -100) (by decide +kernel) (by decide))))
     (cf_S_node
      (cf_S_leaf (cf_S_iload_n (j := 2) (by decide +kernel) rfl))
      (cf_S_node
       (cf_S_leaf (cf_S_ifeq (off := 11) (by decide +kernel) (by decide)))
       (cf_S_leaf (cf_S_iload_n (j := 1) (by decide +kernel) rfl)))))
    (cf_S_node
     (cf_S_node
      (cf_S_leaf (cf_S_ifne (off := 7) (by decide +kernel) (by decide)))
      (cf_S_leaf (cf_S_iconst (n := 1) (by decide +kernel) (by decide))))
     (cf_S_node
      (cf_S_leaf (cf_S_goto (off := 4) (by decide +kernel) (by decide)))
      (cf_S_node
       (cf_S_leaf (cf_S_iconst (n := 0) (by decide +kernel) (by decide)))
       (cf_S_leaf (cf_S_iret (by decide +kernel)))))))))
theorem ct_P_pairs (l : Launch) : ∀ as w q, F_P_pairs as w = some q → cf_Ct l (⟨"CulpritFinderModel", "pairs", "()Z"⟩ : MethodName) prog_7_method_10_code 4 (some .boolean) 1 as w q := cf_F_ct (sd_P_pairs l) (by decide)
theorem sh_P_pairs : ∀ as w q, F_P_pairs as w = some q → ∃ (k : Nat) (as' : List cf_AV) (fs : List (Option Nat)), as = .inr k :: as' ∧ as'.length = 0 ∧ cf_shp k = .inr (5, fs) := cf_shV_of rfl
set_option maxRecDepth 100000 in
theorem sd_P_isSet (l : Launch) (pc : Nat) : cf_S l (cf_rm 1) prog_7_method_11_code 5 "CulpritFinderModel" pc (T_P_isSet pc) := cf_S_node
 (cf_S_node
  (cf_S_node
   (cf_S_node
    (cf_S_node
     (cf_S_leaf (cf_S_iload_n (j := 1) (by decide +kernel) rfl))
     (cf_S_leaf (cf_S_ifne (off := 7) (by decide +kernel) (by decide))))
    (cf_S_node
     (cf_S_leaf (cf_S_iconst (n := 1) (by decide +kernel) (by decide)))
     (cf_S_leaf (cf_S_goto (off := 4) (by decide +kernel) (by decide)))))
   (cf_S_node
    (cf_S_node
     (cf_S_leaf (cf_S_iconst (n := 0) (by decide +kernel) (by decide)))
     (cf_S_leaf (cf_S_istore_n (j := 3) (by decide +kernel) rfl (by decide))))
    (cf_S_node
     (cf_S_leaf (cf_S_iconst (n := 0) (by decide +kernel) (by decide)))
     (cf_S_node
      (cf_S_leaf (cf_S_istore (by decide +kernel) (by decide)))
      (cf_S_leaf (cf_S_iload (by decide +kernel)))))))
  (cf_S_node
   (cf_S_node
    (cf_S_node
     (cf_S_leaf (cf_S_iload_n (j := 2) (by decide +kernel) rfl))
     (cf_S_leaf (cf_S_icge (off := 50) (by decide +kernel) (by decide))))
    (cf_S_node
     (cf_S_leaf (cf_S_iload_n (j := 3) (by decide +kernel) rfl))
     (cf_S_leaf (cf_S_ifne (off := 34) (by decide +kernel) (by decide)))))
   (cf_S_node
    (cf_S_node
     (cf_S_leaf (cf_S_aload_n (j := 0) (by decide +kernel) rfl))
     (cf_S_leaf (cf_S_iload (by decide +kernel))))
    (cf_S_node
     (cf_S_leaf (cf_S_callV (d := 0) (idx := 56) (ct_P_operation l) sh_P_operation rfl (cf_mem 572 (by decide +kernel)) (cf_mem 569 (by decide +kernel)) (cf_mem 571 (by decide +kernel)) (cf_mem 19 (by decide +kernel)) (cf_mem 41 (by decide +kernel)) ⟨⟨by decide +kernel, by decide +kernel⟩, by decide +kernel⟩ ⟨by decide, by decide⟩ (by decide +kernel)))
     (cf_S_node
      (cf_S_leaf (cf_S_iconst (n := 1) (by decide +kernel) (by decide)))
      (cf_S_leaf (cf_S_iceq (off := 14) (by decide +kernel) (by decide))))))))
 (cf_S_node
  (cf_S_node
   (cf_S_node
    (cf_S_node
     (cf_S_leaf (cf_S_aload_n (j := 0) (by decide +kernel) rfl))
     (cf_S_leaf (cf_S_iload (by decide +kernel))))
    (cf_S_node
     (cf_S_leaf (cf_S_callV (d := 0) (idx := 56) (ct_P_operation l) sh_P_operation rfl (cf_mem 572 (by decide +kernel)) (cf_mem 569 (by decide +kernel)) (cf_mem 571 (by decide +kernel)) (cf_mem 19 (by decide +kernel)) (cf_mem 41 (by decide +kernel)) ⟨⟨by decide +kernel, by decide +kernel⟩, by decide +kernel⟩ ⟨by decide, by decide⟩ (by decide +kernel)))
     (cf_S_leaf (cf_S_bipush (n := 8) (by decide +kernel) (by decide +kernel)))))
   (cf_S_node
    (cf_S_node
     (cf_S_leaf (cf_S_icne (off := 17) (by decide +kernel) (by decide)))
     (cf_S_leaf (cf_S_aload_n (j := 0) (by decide +kernel) rfl)))
    (cf_S_node
     (cf_S_leaf (cf_S_iload (by decide +kernel)))
     (cf_S_node
      (cf_S_leaf (cf_S_callV (d := 0) (idx := 60) (ct_P_a l) sh_P_a rfl (cf_mem 576 (by decide +kernel)) (cf_mem 573 (by decide +kernel)) (cf_mem 575 (by decide +kernel)) (cf_mem 20 (by decide +kernel)) (cf_mem 41 (by decide +kernel)) ⟨⟨by decide +kernel, by decide +kernel⟩, by decide +kernel⟩ ⟨by decide, by decide⟩ (by decide +kernel)))
      (cf_S_leaf (cf_S_iload_n (j := 1) (by decide +kernel) rfl))))))
  (cf_S_node
   (cf_S_node
    (cf_S_node
     (cf_S_leaf (cf_S_icne (off := 7) (by decide +kernel) (by decide)))
     (cf_S_leaf (cf_S_iconst (n := 1) (by decide +kernel) (by decide))))
    (cf_S_node
     (cf_S_leaf (cf_S_goto (off := 4) (by decide +kernel) (by decide)))
     (cf_S_leaf (cf_S_iconst (n := 0) (by decide +kernel) (by decide)))))
   (cf_S_node
    (cf_S_node
     (cf_S_leaf (cf_S_istore_n (j := 3) (by decide +kernel) rfl (by decide)))
     (cf_S_leaf (cf_S_iinc (n := 1) (by decide +kernel) (by decide) (by decide))))
    (cf_S_node
     (cf_S_leaf (cf_S_goto (off := -50) (by decide +kernel) (by decide)))
     (cf_S_node
      (cf_S_leaf (cf_S_iload_n (j := 3) (by decide +kernel) rfl))
      (cf_S_leaf (cf_S_iret (by decide +kernel))))))))
theorem ct_P_isSet (l : Launch) : ∀ as w q, F_P_isSet as w = some q → cf_Ct l (⟨"CulpritFinderModel", "isSet", "(II)Z"⟩ : MethodName) prog_7_method_11_code 5 (some .boolean) 1 as w q := cf_F_ct (sd_P_isSet l) (by decide)
theorem sh_P_isSet : ∀ as w q, F_P_isSet as w = some q → ∃ (k : Nat) (as' : List cf_AV) (fs : List (Option Nat)), as = .inr k :: as' ∧ as'.length = 2 ∧ cf_shp k = .inr (5, fs) := cf_shV_of rfl
set_option maxRecDepth 100000 in
theorem sd_P_isBuildable (l : Launch) (pc : Nat) : cf_S l (cf_rm 2) prog_7_method_12_code 6 "CulpritFinderModel" pc (T_P_isBuildable pc) := cf_S_node
 (cf_S_node
  (cf_S_node
   (cf_S_node
    (cf_S_node
     (cf_S_node
      (cf_S_leaf (cf_S_iconst (n := 1) (by decide +kernel) (by decide)))
      (cf_S_leaf (cf_S_istore_n (j := 1) (by decide +kernel) rfl (by decide))))
     (cf_S_node
      (cf_S_leaf (cf_S_iconst (n := 0) (by decide +kernel) (by decide)))
      (cf_S_leaf (cf_S_istore_n (j := 2) (by decide +kernel) rfl (by decide)))))
    (cf_S_node
     (cf_S_node
      (cf_S_leaf (cf_S_iload_n (j := 2) (by decide +kernel) rfl))
      (cf_S_leaf (cf_S_bipush (n := 8) (by decide +kernel) (by decide +kernel))))
     (cf_S_node
      (cf_S_leaf (cf_S_icge (off := 107) (by decide +kernel) (by decide)))
      (cf_S_leaf (cf_S_aload_n (j := 0) (by decide +kernel) rfl)))))
   (cf_S_node
    (cf_S_node
     (cf_S_node
      (cf_S_leaf (cf_S_iload_n (j := 2) (by decide +kernel) rfl))
      (cf_S_leaf (cf_S_callV (d := 0) (idx := 56) (ct_P_operation l) sh_P_operation rfl (cf_mem 572 (by decide +kernel)) (cf_mem 569 (by decide +kernel)) (cf_mem 571 (by decide +kernel)) (cf_mem 19 (by decide +kernel)) (cf_mem 41 (by decide +kernel)) ⟨⟨by decide +kernel, by decide +kernel⟩, by decide +kernel⟩ ⟨by decide, by decide⟩ (by decide +kernel))))
     (cf_S_node
      (cf_S_leaf (cf_S_istore_n (j := 3) (by decide +kernel) rfl (by decide)))
      (cf_S_leaf (cf_S_iload_n (j := 3) (by decide +kernel) rfl))))
    (cf_S_node
     (cf_S_node
      (cf_S_leaf (cf_S_iconst (n := 2) (by decide +kernel) (by decide)))
      (cf_S_leaf (cf_S_iconst (n := 5) (by decide +kernel) (by decide))))
     (cf_S_node
      (cf_S_leaf (cf_S_callS (d := 0) (idx := 44) (ct_P_in l) sh_P_in (cf_mem 544 (by decide +kernel)) (cf_mem 542 (by decide +kernel)) (cf_mem 543 (by decide +kernel)) (cf_mem 41 (by decide +kernel)) ⟨⟨by decide +kernel, by decide +kernel⟩, by decide +kernel⟩ ⟨by decide, by decide⟩ (by decide +kernel)))
      (cf_S_node
       (cf_S_leaf (cf_S_ifne (off := 9) (by decide +kernel) (by decide)))
       (cf_S_leaf (cf_S_iload_n (j := 3) (by decide +kernel) rfl)))))))
  (cf_S_node
   (cf_S_node
    (cf_S_node
     (cf_S_node
      (cf_S_leaf (cf_S_bipush (n := 7) (by decide +kernel) (by decide +kernel)))
      (cf_S_leaf (cf_S_icne (off := 7) (by decide +kernel) (by decide))))
     (cf_S_node
      (cf_S_leaf (cf_S_iconst (n := 1) (by decide +kernel) (by decide)))
      (cf_S_leaf (cf_S_goto (off := 4) (by decide +kernel) (by decide)))))
    (cf_S_node
     (cf_S_node
      (cf_S_leaf (cf_S_iconst (n := 0) (by decide +kernel) (by decide)))
      (cf_S_leaf (cf_S_istore (by decide +kernel) (by decide))))
     (cf_S_node
      (cf_S_leaf (cf_S_iload_n (j := 3) (by decide +kernel) rfl))
      (cf_S_node
       (cf_S_leaf (cf_S_iconst (n := 2) (by decide +kernel) (by decide)))
       (cf_S_leaf (cf_S_iceq (off := 9) (by decide +kernel) (by decide)))))))
   (cf_S_node
    (cf_S_node
     (cf_S_node
      (cf_S_leaf (cf_S_iload_n (j := 3) (by decide +kernel) rfl))
      (cf_S_leaf (cf_S_bipush (n := 8) (by decide +kernel) (by decide +kernel))))
     (cf_S_node
      (cf_S_leaf (cf_S_icne (off := 7) (by decide +kernel) (by decide)))
      (cf_S_leaf (cf_S_iconst (n := 1) (by decide +kernel) (by decide)))))
    (cf_S_node
     (cf_S_node
      (cf_S_leaf (cf_S_goto (off := 4) (by decide +kernel) (by decide)))
      (cf_S_leaf (cf_S_iconst (n := 0) (by decide +kernel) (by decide))))
     (cf_S_node
      (cf_S_leaf (cf_S_istore (by decide +kernel) (by decide)))
      (cf_S_node
       (cf_S_leaf (cf_S_iload_n (j := 1) (by decide +kernel) rfl))
       (cf_S_leaf (cf_S_ifeq (off := 49) (by decide +kernel) (by decide)))))))))
 (cf_S_node
  (cf_S_node
   (cf_S_node
    (cf_S_node
     (cf_S_node
      (cf_S_leaf (cf_S_iload_n (j := 3) (by decide +kernel) rfl))
      (cf_S_leaf (cf_S_bipush (n := 9) (by decide +kernel) (by decide +kernel))))
     (cf_S_node
      (cf_S_leaf (cf_S_icge (off := 43) (by decide +kernel) (by decide)))
      (cf_S_leaf (cf_S_iload (by decide +kernel)))))
    (cf_S_node
     (cf_S_node
      (cf_S_leaf (cf_S_ifeq (off := 16) (by decide +kernel) (by decide)))
      (cf_S_leaf (cf_S_aload_n (j := 0) (by decide +kernel) rfl)))
     (cf_S_node
      (cf_S_leaf (cf_S_aload_n (j := 0) (by decide +kernel) rfl))
      (cf_S_node
       (cf_S_leaf (cf_S_iload_n (j := 2) (by decide +kernel) rfl))
       (cf_S_leaf (cf_S_callV (d := 0) (idx := 60) (ct_P_a l) sh_P_a rfl (cf_mem 576 (by decide +kernel)) (cf_mem 573 (by decide +kernel)) (cf_mem 575 (by decide +kernel)) (cf_mem 20 (by decide +kernel)) (cf_mem 41 (by decide +kernel)) ⟨⟨by decide +kernel, by decide +kernel⟩, by decide +kernel⟩ ⟨by decide, by decide⟩ (by decide +kernel)))))))
   (cf_S_node
    (cf_S_node
     (cf_S_node
      (cf_S_leaf (cf_S_iload_n (j := 2) (by decide +kernel) rfl))
      (cf_S_leaf (cf_S_callV (d := 1) (idx := 63) (ct_P_isSet l) sh_P_isSet rfl (cf_mem 580 (by decide +kernel)) (cf_mem 577 (by decide +kernel)) (cf_mem 579 (by decide +kernel)) (cf_mem 21 (by decide +kernel)) (cf_mem 41 (by decide +kernel)) ⟨⟨by decide +kernel, by decide +kernel⟩, by decide +kernel⟩ ⟨by decide, by decide⟩ (by decide +kernel))))
     (cf_S_node
      (cf_S_leaf (cf_S_ifeq (off := 25) (by decide +kernel) (by decide)))
      (cf_S_leaf (cf_S_iload (by decide +kernel)))))
    (cf_S_node
     (cf_S_node
      (cf_S_leaf (cf_S_ifeq (off := 16) (by decide +kernel) (by decide)))
      (cf_S_leaf (cf_S_aload_n (j := 0) (by decide +kernel) rfl)))
     (cf_S_node
      (cf_S_leaf (cf_S_aload_n (j := 0) (by decide +kernel) rfl))
      (cf_S_node
       (cf_S_leaf (cf_S_iload_n (j := 2) (by decide +kernel) rfl))
       (cf_S_leaf (cf_S_callV (d := 0) (idx := 67) (ct_P_b l) sh_P_b rfl (cf_mem 584 (by decide +kernel)) (cf_mem 581 (by decide +kernel)) (cf_mem 583 (by decide +kernel)) (cf_mem 22 (by decide +kernel)) (cf_mem 41 (by decide +kernel)) ⟨⟨by decide +kernel, by decide +kernel⟩, by decide +kernel⟩ ⟨by decide, by decide⟩ (by decide +kernel))))))))
  (cf_S_node
   (cf_S_node
    (cf_S_node
     (cf_S_node
      (cf_S_leaf (cf_S_iload_n (j := 2) (by decide +kernel) rfl))
      (cf_S_leaf (cf_S_callV (d := 1) (idx := 63) (ct_P_isSet l) sh_P_isSet rfl (cf_mem 580 (by decide +kernel)) (cf_mem 577 (by decide +kernel)) (cf_mem 579 (by decide +kernel)) (cf_mem 21 (by decide +kernel)) (cf_mem 41 (by decide +kernel)) ⟨⟨by decide +kernel, by decide +kernel⟩, by decide +kernel⟩ ⟨by decide, by decide⟩ (by decide +kernel))))
     (cf_S_node
      (cf_S_leaf (cf_S_ifeq (off := 7) (by decide +kernel) (by decide)))
      (cf_S_leaf (cf_S_iconst (n := 1) (by decide +kernel) (by decide)))))
    (cf_S_node
     (cf_S_node
      (cf_S_leaf (cf_S_goto (off := 4) (by decide +kernel) (by decide)))
      (cf_S_leaf (cf_S_iconst (n := 0) (by decide +kernel) (by decide))))
     (cf_S_node
      (cf_S_leaf (cf_S_istore_n (j := 1) (by decide +kernel) rfl (by decide)))
      (cf_S_node
       (cf_S_leaf (cf_S_iinc (n := 1) (by decide +kernel) (by decide) (by decide)))
       (cf_S_leaf (cf_S_goto (off := -107) (by decide +kernel) (by decide)))))))
   (cf_S_node
    (cf_S_node
     (cf_S_node
      (cf_S_leaf (cf_S_iload_n (j := 1) (by decide +kernel) rfl))
      (cf_S_leaf (cf_S_ifeq (off := 14) (by decide +kernel) (by decide))))
     (cf_S_node
      (cf_S_leaf (cf_S_aload_n (j := 0) (by decide +kernel) rfl))
      (cf_S_leaf (cf_S_callV (d := 1) (idx := 70) (ct_P_pairs l) sh_P_pairs rfl (cf_mem 588 (by decide +kernel)) (cf_mem 585 (by decide +kernel)) (cf_mem 587 (by decide +kernel)) (cf_mem 23 (by decide +kernel)) (cf_mem 41 (by decide +kernel)) ⟨⟨by decide +kernel, by decide +kernel⟩, by decide +kernel⟩ ⟨by decide, by decide⟩ (by decide +kernel)))))
    (cf_S_node
     (cf_S_node
      (cf_S_leaf (cf_S_ifeq (off := 7) (by decide +kernel) (by decide)))
      (cf_S_leaf (cf_S_iconst (n := 1) (by decide +kernel) (by decide))))
     (cf_S_node
      (cf_S_leaf (cf_S_goto (off := 4) (by decide +kernel) (by decide)))
      (cf_S_node
       (cf_S_leaf (cf_S_iconst (n := 0) (by decide +kernel) (by decide)))
       (cf_S_leaf (cf_S_iret (by decide +kernel)))))))))
theorem ct_P_isBuildable (l : Launch) : ∀ as w q, F_P_isBuildable as w = some q → cf_Ct l (⟨"CulpritFinderModel", "isBuildable", "()Z"⟩ : MethodName) prog_7_method_12_code 6 (some .boolean) 2 as w q := cf_F_ct (sd_P_isBuildable l) (by decide)
theorem sh_P_isBuildable : ∀ as w q, F_P_isBuildable as w = some q → ∃ (k : Nat) (as' : List cf_AV) (fs : List (Option Nat)), as = .inr k :: as' ∧ as'.length = 0 ∧ cf_shp k = .inr (5, fs) := cf_shV_of rfl
set_option maxRecDepth 100000 in
theorem sd_P_run (l : Launch) (pc : Nat) : cf_S l (cf_rm 3) prog_7_method_13_code 6 "CulpritFinderModel" pc (T_P_run pc) := cf_S_node
 (cf_S_node
  (cf_S_node
   (cf_S_node
    (cf_S_node
     (cf_S_node
      (cf_S_node
       (cf_S_leaf (cf_S_aload_n (j := 0) (by decide +kernel) rfl))
       (cf_S_leaf (cf_S_callV (d := 2) (idx := 74) (ct_P_isBuildable l) sh_P_isBuildable rfl (cf_mem 568 (by decide +kernel)) (cf_mem 565 (by decide +kernel)) (cf_mem 567 (by decide +kernel)) (cf_mem 18 (by decide +kernel)) (cf_mem 41 (by decide +kernel)) ⟨⟨by decide +kernel, by decide +kernel⟩, by decide +kernel⟩ ⟨by decide, by decide⟩ (by decide +kernel))))
      (cf_S_node
       (cf_S_leaf (cf_S_ifne (off := 5) (by decide +kernel) (by decide)))
       (cf_S_node
        (cf_S_leaf (cf_S_iconst (n := 3) (by decide +kernel) (by decide)))
        (cf_S_leaf (cf_S_iret (by decide +kernel))))))
     (cf_S_node
      (cf_S_node
       (cf_S_leaf (cf_S_iconst (n := 0) (by decide +kernel) (by decide)))
       (cf_S_leaf (cf_S_istore_n (j := 2) (by decide +kernel) rfl (by decide))))
      (cf_S_node
       (cf_S_leaf (cf_S_iload_n (j := 2) (by decide +kernel) rfl))
       (cf_S_node
        (cf_S_leaf (cf_S_bipush (n := 10) (by decide +kernel) (by decide +kernel)))
        (cf_S_leaf (cf_S_icge (off := 24) (by decide +kernel) (by decide)))))))
    (cf_S_node
     (cf_S_node
      (cf_S_node
       (cf_S_leaf (cf_S_aload_n (j := 0) (by decide +kernel) rfl))
       (cf_S_leaf (cf_S_get (T := cf_T5) (N := 24) (idx := 37) rfl (by decide) cf_la5 (cf_mem 479 (by decide +kernel)) (by decide +kernel))))
      (cf_S_node
       (cf_S_leaf (cf_S_iload_n (j := 2) (by decide +kernel) rfl))
       (cf_S_node
        (cf_S_leaf (cf_S_iload_n (j := 2) (by decide +kernel) rfl))
        (cf_S_leaf (cf_S_ifne (off := 7) (by decide +kernel) (by decide))))))
     (cf_S_node
      (cf_S_node
       (cf_S_leaf (cf_S_iload_n (j := 1) (by decide +kernel) rfl))
       (cf_S_node
        (cf_S_leaf (cf_S_goto (off := 4) (by decide +kernel) (by decide)))
        (cf_S_leaf (cf_S_iconst (n := 0) (by decide +kernel) (by decide)))))
      (cf_S_node
       (cf_S_leaf (cf_S_iast (by decide +kernel)))
       (cf_S_node
        (cf_S_leaf (cf_S_iinc (n := 1) (by decide +kernel) (by decide) (by decide)))
        (cf_S_leaf (cf_S_goto (off := -24) (by decide +kernel) (by decide))))))))
   (cf_S_node
    (cf_S_node
     (cf_S_node
      (cf_S_node
       (cf_S_leaf (cf_S_iconst (n := 0) (by decide +kernel) (by decide)))
       (cf_S_leaf (cf_S_istore_n (j := 2) (by decide +kernel) rfl (by decide))))
      (cf_S_node
       (cf_S_leaf (cf_S_iconst (n := 0) (by decide +kernel) (by decide)))
       (cf_S_node
        (cf_S_leaf (cf_S_istore_n (j := 3) (by decide +kernel) rfl (by decide)))
        (cf_S_leaf (cf_S_iload_n (j := 2) (by decide +kernel) rfl)))))
     (cf_S_node
      (cf_S_node
       (cf_S_leaf (cf_S_bipush (n := 8) (by decide +kernel) (by decide +kernel)))
       (cf_S_node
        (cf_S_leaf (cf_S_icge (off := 248) (by decide +kernel) (by decide)))
        (cf_S_leaf (cf_S_iload_n (j := 3) (by decide +kernel) rfl))))
      (cf_S_node
       (cf_S_leaf (cf_S_iconst (n := 1) (by decide +kernel) (by decide)))
       (cf_S_node
        (cf_S_leaf (cf_S_iadd (by decide +kernel)))
        (cf_S_leaf (cf_S_istore_n (j := 3) (by decide +kernel) rfl (by decide)))))))
    (cf_S_node
     (cf_S_node
      (cf_S_node
       (cf_S_leaf (cf_S_iload_n (j := 3) (by decide +kernel) rfl))
       (cf_S_leaf (cf_S_bipush (n := 80) (by decide +kernel) (by decide +kernel))))
      (cf_S_node
       (cf_S_leaf (cf_S_icle (off := 5) (by decide +kernel) (by decide)))
       (cf_S_node
        (cf_S_leaf (cf_S_iconst (n := 2) (by decide +kernel) (by decide)))
        (cf_S_leaf (cf_S_iret (by decide +kernel))))))
     (cf_S_node
      (cf_S_node
       (cf_S_leaf (cf_S_aload_n (j := 0) (by decide +kernel) rfl))
       (cf_S_node
        (cf_S_leaf (cf_S_iload_n (j := 2) (by decide +kernel) rfl))
        (cf_S_leaf (cf_S_callV (d := 0) (idx := 56) (ct_P_operation l) sh_P_operation rfl (cf_mem 572 (by decide +kernel)) (cf_mem 569 (by decide +kernel)) (cf_mem 571 (by decide +kernel)) (cf_mem 19 (by decide +kernel)) (cf_mem 41 (by decide +kernel)) ⟨⟨by decide +kernel, by decide +kernel⟩, by decide +kernel⟩ ⟨by decide, by decide⟩ (by decide +kernel)))))
      (cf_S_node
       (cf_S_leaf (cf_S_istore (by decide +kernel) (by decide)))
       (cf_S_node
        (cf_S_leaf (cf_S_iload_n (j := 2) (by decide +kernel) rfl))
        (cf_S_leaf (cf_S_iconst (n := 1) (by decide +kernel) (by decide)))))))))
  (cf_S_node
   (cf_S_node
    (cf_S_node
     (cf_S_node
      (cf_S_node
       (cf_S_leaf (cf_S_iadd (by decide +kernel)))
       (cf_S_leaf (cf_S_istore (by decide +kernel) (by decide))))
      (cf_S_node
       (cf_S_leaf (cf_S_iload (by decide +kernel)))
       (cf_S_node
        (cf_S_leaf (cf_S_iconst (n := 1) (by decide +kernel) (by decide)))
        (cf_S_leaf (cf_S_icne (off := 18) (by decide +kernel) (by decide))))))
     (cf_S_node
      (cf_S_node
       (cf_S_leaf (cf_S_aload_n (j := 0) (by decide +kernel) rfl))
       (cf_S_leaf (cf_S_get (T := cf_T5) (N := 24) (idx := 37) rfl (by decide) cf_la5 (cf_mem 479 (by decide +kernel)) (by decide +kernel))))
      (cf_S_node
       (cf_S_leaf (cf_S_aload_n (j := 0) (by decide +kernel) rfl))
       (cf_S_node
        (cf_S_leaf (cf_S_iload_n (j := 2) (by decide +kernel) rfl))
        (cf_S_leaf (cf_S_callV (d := 0) (idx := 60) (ct_P_a l) sh_P_a rfl (cf_mem 576 (by decide +kernel)) (cf_mem 573 (by decide +kernel)) (cf_mem 575 (by decide +kernel)) (cf_mem 20 (by decide +kernel)) (cf_mem 41 (by decide +kernel)) ⟨⟨by decide +kernel, by decide +kernel⟩, by decide +kernel⟩ ⟨by decide, by decide⟩ (by decide +kernel)))))))
    (cf_S_node
     (cf_S_node
      (cf_S_node
       (cf_S_leaf (cf_S_aload_n (j := 0) (by decide +kernel) rfl))
       (cf_S_leaf (cf_S_iload_n (j := 2) (by decide +kernel) rfl)))
      (cf_S_node
       (cf_S_leaf (cf_S_callV (d := 0) (idx := 67) (ct_P_b l) sh_P_b rfl (cf_mem 584 (by decide +kernel)) (cf_mem 581 (by decide +kernel)) (cf_mem 583 (by decide +kernel)) (cf_mem 22 (by decide +kernel)) (cf_mem 41 (by decide +kernel)) ⟨⟨by decide +kernel, by decide +kernel⟩, by decide +kernel⟩ ⟨by decide, by decide⟩ (by decide +kernel)))
       (cf_S_node
        (cf_S_leaf (cf_S_iast (by decide +kernel)))
        (cf_S_leaf (cf_S_iload (by decide +kernel))))))
     (cf_S_node
      (cf_S_node
       (cf_S_leaf (cf_S_iconst (n := 2) (by decide +kernel) (by decide)))
       (cf_S_node
        (cf_S_leaf (cf_S_icne (off := 34) (by decide +kernel) (by decide)))
        (cf_S_leaf (cf_S_aload_n (j := 0) (by decide +kernel) rfl))))
      (cf_S_node
       (cf_S_leaf (cf_S_get (T := cf_T5) (N := 24) (idx := 37) rfl (by decide) cf_la5 (cf_mem 479 (by decide +kernel)) (by decide +kernel)))
       (cf_S_node
        (cf_S_leaf (cf_S_aload_n (j := 0) (by decide +kernel) rfl))
        (cf_S_leaf (cf_S_iload_n (j := 2) (by decide +kernel) rfl)))))))
   (cf_S_node
    (cf_S_node
     (cf_S_node
      (cf_S_node
       (cf_S_leaf (cf_S_callV (d := 0) (idx := 60) (ct_P_a l) sh_P_a rfl (cf_mem 576 (by decide +kernel)) (cf_mem 573 (by decide +kernel)) (cf_mem 575 (by decide +kernel)) (cf_mem 20 (by decide +kernel)) (cf_mem 41 (by decide +kernel)) ⟨⟨by decide +kernel, by decide +kernel⟩, by decide +kernel⟩ ⟨by decide, by decide⟩ (by decide +kernel)))
       (cf_S_leaf (cf_S_aload_n (j := 0) (by decide +kernel) rfl)))
      (cf_S_node
       (cf_S_leaf (cf_S_get (T := cf_T5) (N := 24) (idx := 37) rfl (by decide) cf_la5 (cf_mem 479 (by decide +kernel)) (by decide +kernel)))
       (cf_S_node
        (cf_S_leaf (cf_S_aload_n (j := 0) (by decide +kernel) rfl))
        (cf_S_leaf (cf_S_iload_n (j := 2) (by decide +kernel) rfl)))))
     (cf_S_node
      (cf_S_node
       (cf_S_leaf (cf_S_callV (d := 0) (idx := 60) (ct_P_a l) sh_P_a rfl (cf_mem 576 (by decide +kernel)) (cf_mem 573 (by decide +kernel)) (cf_mem 575 (by decide +kernel)) (cf_mem 20 (by decide +kernel)) (cf_mem 41 (by decide +kernel)) ⟨⟨by decide +kernel, by decide +kernel⟩, by decide +kernel⟩ ⟨by decide, by decide⟩ (by decide +kernel)))
       (cf_S_node
        (cf_S_leaf (cf_S_iald (by decide +kernel)))
        (cf_S_leaf (cf_S_aload_n (j := 0) (by decide +kernel) rfl))))
      (cf_S_node
       (cf_S_leaf (cf_S_get (T := cf_T5) (N := 24) (idx := 37) rfl (by decide) cf_la5 (cf_mem 479 (by decide +kernel)) (by decide +kernel)))
       (cf_S_node
        (cf_S_leaf (cf_S_aload_n (j := 0) (by decide +kernel) rfl))
        (cf_S_leaf (cf_S_iload_n (j := 2) (by decide +kernel) rfl))))))
    (cf_S_node
     (cf_S_node
      (cf_S_node
       (cf_S_leaf (cf_S_callV (d := 0) (idx := 67) (ct_P_b l) sh_P_b rfl (cf_mem 584 (by decide +kernel)) (cf_mem 581 (by decide +kernel)) (cf_mem 583 (by decide +kernel)) (cf_mem 22 (by decide +kernel)) (cf_mem 41 (by decide +kernel)) ⟨⟨by decide +kernel, by decide +kernel⟩, by decide +kernel⟩ ⟨by decide, by decide⟩ (by decide +kernel)))
       (cf_S_leaf (cf_S_iald (by decide +kernel))))
      (cf_S_node
       (cf_S_leaf (cf_S_iadd (by decide +kernel)))
       (cf_S_node
        (cf_S_leaf (cf_S_iast (by decide +kernel)))
        (cf_S_leaf (cf_S_iload (by decide +kernel))))))
     (cf_S_node
      (cf_S_node
       (cf_S_leaf (cf_S_iconst (n := 3) (by decide +kernel) (by decide)))
       (cf_S_node
        (cf_S_leaf (cf_S_icne (off := 38) (by decide +kernel) (by decide)))
        (cf_S_leaf (cf_S_aload_n (j := 0) (by decide +kernel) rfl))))
      (cf_S_node
       (cf_S_leaf (cf_S_get (T := cf_T5) (N := 24) (idx := 37) rfl (by decide) cf_la5 (cf_mem 479 (by decide +kernel)) (by decide +kernel)))
       (cf_S_node
        (cf_S_leaf (cf_S_aload_n (j := 0) (by decide +kernel) rfl))
        (cf_S_leaf (cf_S_iload_n (j := 2) (by decide +kernel) rfl)))))))))
 (cf_S_node
  (cf_S_node
   (cf_S_node
    (cf_S_node
     (cf_S_node
      (cf_S_node
       (cf_S_leaf (cf_S_callV (d := 0) (idx := 60) (ct_P_a l) sh_P_a rfl (cf_mem 576 (by decide +kernel)) (cf_mem 573 (by decide +kernel)) (cf_mem 575 (by decide +kernel)) (cf_mem 20 (by decide +kernel)) (cf_mem 41 (by decide +kernel)) ⟨⟨by decide +kernel, by decide +kernel⟩, by decide +kernel⟩ ⟨by decide, by decide⟩ (by decide +kernel)))
       (cf_S_leaf (cf_S_iald (by decide +kernel))))
      (cf_S_node
       (cf_S_leaf (cf_S_ifle (off := 25) (by decide +kernel) (by decide)))
       (cf_S_node
        (cf_S_leaf (cf_S_aload_n (j := 0) (by decide +kernel) rfl))
        (cf_S_leaf (cf_S_get (T := cf_T5) (N := 24) (idx := 37) rfl (by decide) cf_la5 (cf_mem 479 (by decide +kernel)) (by decide +kernel))))))
     (cf_S_node
      (cf_S_node
       (cf_S_leaf (cf_S_aload_n (j := 0) (by decide +kernel) rfl))
       (cf_S_leaf (cf_S_iload_n (j := 2) (by decide +kernel) rfl)))
      (cf_S_node
       (cf_S_leaf (cf_S_callV (d := 0) (idx := 60) (ct_P_a l) sh_P_a rfl (cf_mem 576 (by decide +kernel)) (cf_mem 573 (by decide +kernel)) (cf_mem 575 (by decide +kernel)) (cf_mem 20 (by decide +kernel)) (cf_mem 41 (by decide +kernel)) ⟨⟨by decide +kernel, by decide +kernel⟩, by decide +kernel⟩ ⟨by decide, by decide⟩ (by decide +kernel)))
       (cf_S_node
        (cf_S_leaf (cf_S_aload_n (j := 0) (by decide +kernel) rfl))
        (cf_S_leaf (cf_S_get (T := cf_T5) (N := 24) (idx := 37) rfl (by decide) cf_la5 (cf_mem 479 (by decide +kernel)) (by decide +kernel)))))))
    (cf_S_node
     (cf_S_node
      (cf_S_node
       (cf_S_leaf (cf_S_aload_n (j := 0) (by decide +kernel) rfl))
       (cf_S_leaf (cf_S_iload_n (j := 2) (by decide +kernel) rfl)))
      (cf_S_node
       (cf_S_leaf (cf_S_callV (d := 0) (idx := 60) (ct_P_a l) sh_P_a rfl (cf_mem 576 (by decide +kernel)) (cf_mem 573 (by decide +kernel)) (cf_mem 575 (by decide +kernel)) (cf_mem 20 (by decide +kernel)) (cf_mem 41 (by decide +kernel)) ⟨⟨by decide +kernel, by decide +kernel⟩, by decide +kernel⟩ ⟨by decide, by decide⟩ (by decide +kernel)))
       (cf_S_node
        (cf_S_leaf (cf_S_iald (by decide +kernel)))
        (cf_S_leaf (cf_S_iconst (n := 1) (by decide +kernel) (by decide))))))
     (cf_S_node
      (cf_S_node
       (cf_S_leaf (cf_S_isub (by decide +kernel)))
       (cf_S_node
        (cf_S_leaf (cf_S_iast (by decide +kernel)))
        (cf_S_leaf (cf_S_iload (by decide +kernel)))))
      (cf_S_node
       (cf_S_leaf (cf_S_iconst (n := 4) (by decide +kernel) (by decide)))
       (cf_S_node
        (cf_S_leaf (cf_S_iconst (n := 5) (by decide +kernel) (by decide)))
        (cf_S_leaf (cf_S_callS (d := 0) (idx := 44) (ct_P_in l) sh_P_in (cf_mem 544 (by decide +kernel)) (cf_mem 542 (by decide +kernel)) (cf_mem 543 (by decide +kernel)) (cf_mem 41 (by decide +kernel)) ⟨⟨by decide +kernel, by decide +kernel⟩, by decide +kernel⟩ ⟨by decide, by decide⟩ (by decide +kernel))))))))
   (cf_S_node
    (cf_S_node
     (cf_S_node
      (cf_S_node
       (cf_S_leaf (cf_S_ifeq (off := 26) (by decide +kernel) (by decide)))
       (cf_S_leaf (cf_S_aload_n (j := 0) (by decide +kernel) rfl)))
      (cf_S_node
       (cf_S_leaf (cf_S_get (T := cf_T5) (N := 24) (idx := 37) rfl (by decide) cf_la5 (cf_mem 479 (by decide +kernel)) (by decide +kernel)))
       (cf_S_node
        (cf_S_leaf (cf_S_aload_n (j := 0) (by decide +kernel) rfl))
        (cf_S_leaf (cf_S_iload_n (j := 2) (by decide +kernel) rfl)))))
     (cf_S_node
      (cf_S_node
       (cf_S_leaf (cf_S_callV (d := 0) (idx := 60) (ct_P_a l) sh_P_a rfl (cf_mem 576 (by decide +kernel)) (cf_mem 573 (by decide +kernel)) (cf_mem 575 (by decide +kernel)) (cf_mem 20 (by decide +kernel)) (cf_mem 41 (by decide +kernel)) ⟨⟨by decide +kernel, by decide +kernel⟩, by decide +kernel⟩ ⟨by decide, by decide⟩ (by decide +kernel)))
       (cf_S_node
        (cf_S_leaf (cf_S_iald (by decide +kernel)))
        (cf_S_leaf (cf_S_ifne (off := 13) (by decide +kernel) (by decide)))))
      (cf_S_node
       (cf_S_leaf (cf_S_aload_n (j := 0) (by decide +kernel) rfl))
       (cf_S_node
        (cf_S_leaf (cf_S_get (T := cf_T5) (N := 24) (idx := 31) rfl (by decide) cf_la5 (cf_mem 477 (by decide +kernel)) (by decide +kernel)))
        (cf_S_leaf (cf_S_iload_n (j := 2) (by decide +kernel) rfl))))))
    (cf_S_node
     (cf_S_node
      (cf_S_node
       (cf_S_leaf (cf_S_iald (by decide +kernel)))
       (cf_S_leaf (cf_S_iconst (n := 1) (by decide +kernel) (by decide))))
      (cf_S_node
       (cf_S_leaf (cf_S_iadd (by decide +kernel)))
       (cf_S_node
        (cf_S_leaf (cf_S_istore (by decide +kernel) (by decide)))
        (cf_S_leaf (cf_S_iload (by decide +kernel))))))
     (cf_S_node
      (cf_S_node
       (cf_S_leaf (cf_S_bipush (n := 6) (by decide +kernel) (by decide +kernel)))
       (cf_S_node
        (cf_S_leaf (cf_S_icne (off := 25) (by decide +kernel) (by decide)))
        (cf_S_leaf (cf_S_aload_n (j := 0) (by decide +kernel) rfl))))
      (cf_S_node
       (cf_S_leaf (cf_S_aload_n (j := 0) (by decide +kernel) rfl))
       (cf_S_node
        (cf_S_leaf (cf_S_get (T := cf_T5) (N := 24) (idx := 31) rfl (by decide) cf_la5 (cf_mem 477 (by decide +kernel)) (by decide +kernel)))
        (cf_S_leaf (cf_S_iload_n (j := 2) (by decide +kernel) rfl))))))))
  (cf_S_node
   (cf_S_node
    (cf_S_node
     (cf_S_node
      (cf_S_node
       (cf_S_leaf (cf_S_iald (by decide +kernel)))
       (cf_S_leaf (cf_S_callV (d := 0) (idx := 56) (ct_P_operation l) sh_P_operation rfl (cf_mem 572 (by decide +kernel)) (cf_mem 569 (by decide +kernel)) (cf_mem 571 (by decide +kernel)) (cf_mem 19 (by decide +kernel)) (cf_mem 41 (by decide +kernel)) ⟨⟨by decide +kernel, by decide +kernel⟩, by decide +kernel⟩ ⟨by decide, by decide⟩ (by decide +kernel))))
      (cf_S_node
       (cf_S_leaf (cf_S_iconst (n := 4) (by decide +kernel) (by decide)))
       (cf_S_node
        (cf_S_leaf (cf_S_icne (off := 11) (by decide +kernel) (by decide)))
        (cf_S_leaf (cf_S_aload_n (j := 0) (by decide +kernel) rfl)))))
     (cf_S_node
      (cf_S_node
       (cf_S_leaf (cf_S_get (T := cf_T5) (N := 24) (idx := 31) rfl (by decide) cf_la5 (cf_mem 477 (by decide +kernel)) (by decide +kernel)))
       (cf_S_node
        (cf_S_leaf (cf_S_iload_n (j := 2) (by decide +kernel) rfl))
        (cf_S_leaf (cf_S_iald (by decide +kernel)))))
      (cf_S_node
       (cf_S_leaf (cf_S_istore (by decide +kernel) (by decide)))
       (cf_S_node
        (cf_S_leaf (cf_S_iload (by decide +kernel)))
        (cf_S_leaf (cf_S_bipush (n := 7) (by decide +kernel) (by decide +kernel)))))))
    (cf_S_node
     (cf_S_node
      (cf_S_node
       (cf_S_leaf (cf_S_icne (off := 23) (by decide +kernel) (by decide)))
       (cf_S_leaf (cf_S_aload_n (j := 0) (by decide +kernel) rfl)))
      (cf_S_node
       (cf_S_leaf (cf_S_get (T := cf_T5) (N := 24) (idx := 37) rfl (by decide) cf_la5 (cf_mem 479 (by decide +kernel)) (by decide +kernel)))
       (cf_S_node
        (cf_S_leaf (cf_S_aload_n (j := 0) (by decide +kernel) rfl))
        (cf_S_leaf (cf_S_iload_n (j := 2) (by decide +kernel) rfl)))))
     (cf_S_node
      (cf_S_node
       (cf_S_leaf (cf_S_callV (d := 0) (idx := 60) (ct_P_a l) sh_P_a rfl (cf_mem 576 (by decide +kernel)) (cf_mem 573 (by decide +kernel)) (cf_mem 575 (by decide +kernel)) (cf_mem 20 (by decide +kernel)) (cf_mem 41 (by decide +kernel)) ⟨⟨by decide +kernel, by decide +kernel⟩, by decide +kernel⟩ ⟨by decide, by decide⟩ (by decide +kernel)))
       (cf_S_node
        (cf_S_leaf (cf_S_iald (by decide +kernel)))
        (cf_S_leaf (cf_S_aload_n (j := 0) (by decide +kernel) rfl))))
      (cf_S_node
       (cf_S_leaf (cf_S_iload_n (j := 2) (by decide +kernel) rfl))
       (cf_S_node
        (cf_S_leaf (cf_S_callV (d := 0) (idx := 67) (ct_P_b l) sh_P_b rfl (cf_mem 584 (by decide +kernel)) (cf_mem 581 (by decide +kernel)) (cf_mem 583 (by decide +kernel)) (cf_mem 22 (by decide +kernel)) (cf_mem 41 (by decide +kernel)) ⟨⟨by decide +kernel, by decide +kernel⟩, by decide +kernel⟩ ⟨by decide, by decide⟩ (by decide +kernel)))
        (cf_S_leaf (cf_S_iceq (off := 5) (by decide +kernel) (by decide))))))))
   (cf_S_node
    (cf_S_node
     (cf_S_node
      (cf_S_node
       (cf_S_leaf (cf_S_iconst (n := 2) (by decide +kernel) (by decide)))
       (cf_S_leaf (cf_S_iret (by decide +kernel))))
      (cf_S_node
       (cf_S_leaf (cf_S_iload (by decide +kernel)))
       (cf_S_node
        (cf_S_leaf (cf_S_bipush (n := 8) (by decide +kernel) (by decide +kernel)))
        (cf_S_leaf (cf_S_icne (off := 23) (by decide +kernel) (by decide))))))
     (cf_S_node
      (cf_S_node
       (cf_S_leaf (cf_S_aload_n (j := 0) (by decide +kernel) rfl))
       (cf_S_node
        (cf_S_leaf (cf_S_get (T := cf_T5) (N := 24) (idx := 37) rfl (by decide) cf_la5 (cf_mem 479 (by decide +kernel)) (by decide +kernel)))
        (cf_S_leaf (cf_S_aload_n (j := 0) (by decide +kernel) rfl))))
      (cf_S_node
       (cf_S_leaf (cf_S_iload_n (j := 2) (by decide +kernel) rfl))
       (cf_S_node
        (cf_S_leaf (cf_S_callV (d := 0) (idx := 60) (ct_P_a l) sh_P_a rfl (cf_mem 576 (by decide +kernel)) (cf_mem 573 (by decide +kernel)) (cf_mem 575 (by decide +kernel)) (cf_mem 20 (by decide +kernel)) (cf_mem 41 (by decide +kernel)) ⟨⟨by decide +kernel, by decide +kernel⟩, by decide +kernel⟩ ⟨by decide, by decide⟩ (by decide +kernel)))
        (cf_S_leaf (cf_S_aload_n (j := 0) (by decide +kernel) rfl))))))
    (cf_S_node
     (cf_S_node
      (cf_S_node
       (cf_S_leaf (cf_S_get (T := cf_T5) (N := 24) (idx := 37) rfl (by decide) cf_la5 (cf_mem 479 (by decide +kernel)) (by decide +kernel)))
       (cf_S_leaf (cf_S_aload_n (j := 0) (by decide +kernel) rfl)))
      (cf_S_node
       (cf_S_leaf (cf_S_iload_n (j := 2) (by decide +kernel) rfl))
       (cf_S_node
        (cf_S_leaf (cf_S_callV (d := 0) (idx := 67) (ct_P_b l) sh_P_b rfl (cf_mem 584 (by decide +kernel)) (cf_mem 581 (by decide +kernel)) (cf_mem 583 (by decide +kernel)) (cf_mem 22 (by decide +kernel)) (cf_mem 41 (by decide +kernel)) ⟨⟨by decide +kernel, by decide +kernel⟩, by decide +kernel⟩ ⟨by decide, by decide⟩ (by decide +kernel)))
        (cf_S_leaf (cf_S_iald (by decide +kernel))))))
     (cf_S_node
      (cf_S_node
       (cf_S_leaf (cf_S_iast (by decide +kernel)))
       (cf_S_node
        (cf_S_leaf (cf_S_iload (by decide +kernel)))
        (cf_S_leaf (cf_S_istore_n (j := 2) (by decide +kernel) rfl (by decide)))))
      (cf_S_node
       (cf_S_leaf (cf_S_goto (off := -248) (by decide +kernel) (by decide)))
       (cf_S_node
        (cf_S_leaf (cf_S_iconst (n := 1) (by decide +kernel) (by decide)))
        (cf_S_leaf (cf_S_iret (by decide +kernel))))))))))
theorem ct_P_run (l : Launch) : ∀ as w q, F_P_run as w = some q → cf_Ct l (⟨"CulpritFinderModel", "run", "(I)I"⟩ : MethodName) prog_7_method_13_code 6 (some .int) 3 as w q := cf_F_ct (sd_P_run l) (by decide)
theorem sh_P_run : ∀ as w q, F_P_run as w = some q → ∃ (k : Nat) (as' : List cf_AV) (fs : List (Option Nat)), as = .inr k :: as' ∧ as'.length = 1 ∧ cf_shp k = .inr (5, fs) := cf_shV_of rfl
