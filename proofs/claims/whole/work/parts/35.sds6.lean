set_option maxRecDepth 100000 in
theorem sd_P_load (l : Launch) (pc : Nat) : cf_S l (cf_rm 0) prog_7_method_14_code 3 "CulpritFinderModel" pc (T_P_load pc) := cf_S_node
 (cf_S_node
  (cf_S_node
   (cf_S_node
    (cf_S_leaf (cf_S_iconst (n := 0) (by decide +kernel) (by decide)))
    (cf_S_leaf (cf_S_istore_n (j := 2) (by decide +kernel) rfl (by decide))))
   (cf_S_node
    (cf_S_leaf (cf_S_iload_n (j := 2) (by decide +kernel) rfl))
    (cf_S_node
     (cf_S_leaf (cf_S_bipush (n := 8) (by decide +kernel) (by decide +kernel)))
     (cf_S_leaf (cf_S_icge (off := 26) (by decide +kernel) (by decide))))))
  (cf_S_node
   (cf_S_node
    (cf_S_leaf (cf_S_aload_n (j := 0) (by decide +kernel) rfl))
    (cf_S_leaf (cf_S_get (T := cf_T5) (N := 24) (idx := 28) rfl (by decide) cf_la5 (cf_mem 476 (by decide +kernel)) (by decide +kernel))))
   (cf_S_node
    (cf_S_leaf (cf_S_iload_n (j := 2) (by decide +kernel) rfl))
    (cf_S_node
     (cf_S_leaf (cf_S_aload_n (j := 0) (by decide +kernel) rfl))
     (cf_S_leaf (cf_S_get (T := cf_T5) (N := 24) (idx := 16) rfl (by decide) cf_la5 (cf_mem 465 (by decide +kernel)) (by decide +kernel)))))))
 (cf_S_node
  (cf_S_node
   (cf_S_node
    (cf_S_leaf (cf_S_bipush (n := 8) (by decide +kernel) (by decide +kernel)))
    (cf_S_leaf (cf_S_iload_n (j := 1) (by decide +kernel) rfl)))
   (cf_S_node
    (cf_S_leaf (cf_S_imul (by decide +kernel)))
    (cf_S_node
     (cf_S_leaf (cf_S_iload_n (j := 2) (by decide +kernel) rfl))
     (cf_S_leaf (cf_S_iadd (by decide +kernel))))))
  (cf_S_node
   (cf_S_node
    (cf_S_leaf (cf_S_iald (by decide +kernel)))
    (cf_S_leaf (cf_S_iast (by decide +kernel))))
   (cf_S_node
    (cf_S_leaf (cf_S_iinc (n := 1) (by decide +kernel) (by decide) (by decide)))
    (cf_S_node
     (cf_S_leaf (cf_S_goto (off := -26) (by decide +kernel) (by decide)))
     (cf_S_leaf (cf_S_vret (by decide +kernel)))))))
theorem ct_P_load (l : Launch) : ∀ as w q, F_P_load as w = some q → cf_Ct l (⟨"CulpritFinderModel", "load", "(I)V"⟩ : MethodName) prog_7_method_14_code 3 none 0 as w q := cf_F_ct (sd_P_load l) (by decide)
theorem sh_P_load : ∀ as w q, F_P_load as w = some q → ∃ (k : Nat) (as' : List cf_AV) (fs : List (Option Nat)), as = .inr k :: as' ∧ as'.length = 1 ∧ cf_shp k = .inr (5, fs) := cf_shV_of rfl
set_option maxRecDepth 100000 in
theorem sd_P_verdict (l : Launch) (pc : Nat) : cf_S l (cf_rm 4) prog_7_method_15_code 3 "CulpritFinderModel" pc (T_P_verdict pc) := cf_S_node
 (cf_S_node
  (cf_S_node
   (cf_S_leaf (cf_S_aload_n (j := 0) (by decide +kernel) rfl))
   (cf_S_node
    (cf_S_leaf (cf_S_iload_n (j := 1) (by decide +kernel) rfl))
    (cf_S_leaf (cf_S_callV (d := 1) (idx := 48) (ct_P_isCommit l) sh_P_isCommit rfl (cf_mem 541 (by decide +kernel)) (cf_mem 538 (by decide +kernel)) (cf_mem 540 (by decide +kernel)) (cf_mem 15 (by decide +kernel)) (cf_mem 41 (by decide +kernel)) ⟨⟨by decide +kernel, by decide +kernel⟩, by decide +kernel⟩ ⟨by decide, by decide⟩ (by decide +kernel)))))
  (cf_S_node
   (cf_S_leaf (cf_S_ifne (off := 5) (by decide +kernel) (by decide)))
   (cf_S_node
    (cf_S_leaf (cf_S_iconst (n := 0) (by decide +kernel) (by decide)))
    (cf_S_leaf (cf_S_iret (by decide +kernel))))))
 (cf_S_node
  (cf_S_node
   (cf_S_leaf (cf_S_aload_n (j := 0) (by decide +kernel) rfl))
   (cf_S_node
    (cf_S_leaf (cf_S_iload_n (j := 1) (by decide +kernel) rfl))
    (cf_S_leaf (cf_S_callV (d := 0) (idx := 77) (ct_P_load l) sh_P_load rfl (cf_mem 560 (by decide +kernel)) (cf_mem 557 (by decide +kernel)) (cf_mem 559 (by decide +kernel)) (cf_mem 16 (by decide +kernel)) (cf_mem 41 (by decide +kernel)) ⟨⟨by decide +kernel, by decide +kernel⟩, by decide +kernel⟩ ⟨by decide, by decide⟩ (by decide +kernel)))))
  (cf_S_node
   (cf_S_node
    (cf_S_leaf (cf_S_aload_n (j := 0) (by decide +kernel) rfl))
    (cf_S_leaf (cf_S_iload_n (j := 2) (by decide +kernel) rfl)))
   (cf_S_node
    (cf_S_leaf (cf_S_callV (d := 3) (idx := 81) (ct_P_run l) sh_P_run rfl (cf_mem 564 (by decide +kernel)) (cf_mem 561 (by decide +kernel)) (cf_mem 563 (by decide +kernel)) (cf_mem 17 (by decide +kernel)) (cf_mem 41 (by decide +kernel)) ⟨⟨by decide +kernel, by decide +kernel⟩, by decide +kernel⟩ ⟨by decide, by decide⟩ (by decide +kernel)))
    (cf_S_leaf (cf_S_iret (by decide +kernel))))))
theorem ct_P_verdict (l : Launch) : ∀ as w q, F_P_verdict as w = some q → cf_Ct l (⟨"CulpritFinderModel", "verdict", "(II)I"⟩ : MethodName) prog_7_method_15_code 3 (some .int) 4 as w q := cf_F_ct (sd_P_verdict l) (by decide)
theorem sh_P_verdict : ∀ as w q, F_P_verdict as w = some q → ∃ (k : Nat) (as' : List cf_AV) (fs : List (Option Nat)), as = .inr k :: as' ∧ as'.length = 2 ∧ cf_shp k = .inr (5, fs) := cf_shV_of rfl
set_option maxRecDepth 100000 in
theorem sd_P_judge (l : Launch) (pc : Nat) : cf_S l (cf_rm 4) prog_7_method_16_code 3 "CulpritFinderModel" pc (T_P_judge pc) := cf_S_node
 (cf_S_node
  (cf_S_node
   (cf_S_node
    (cf_S_node
     (cf_S_leaf (cf_S_iload_n (j := 1) (by decide +kernel) rfl))
     (cf_S_node
      (cf_S_leaf (cf_S_sipush (n := 1000) (by decide +kernel) (by decide +kernel)))
      (cf_S_leaf (cf_S_icge (off := 17) (by decide +kernel) (by decide)))))
    (cf_S_node
     (cf_S_node
      (cf_S_leaf (cf_S_aload_n (j := 0) (by decide +kernel) rfl))
      (cf_S_leaf (cf_S_iload_n (j := 1) (by decide +kernel) rfl)))
     (cf_S_node
      (cf_S_leaf (cf_S_callV (d := 0) (idx := 77) (ct_P_load l) sh_P_load rfl (cf_mem 560 (by decide +kernel)) (cf_mem 557 (by decide +kernel)) (cf_mem 559 (by decide +kernel)) (cf_mem 16 (by decide +kernel)) (cf_mem 41 (by decide +kernel)) ⟨⟨by decide +kernel, by decide +kernel⟩, by decide +kernel⟩ ⟨by decide, by decide⟩ (by decide +kernel)))
      (cf_S_leaf (cf_S_aload_n (j := 0) (by decide +kernel) rfl)))))
   (cf_S_node
    (cf_S_node
     (cf_S_leaf (cf_S_aload_n (j := 0) (by decide +kernel) rfl))
     (cf_S_node
      (cf_S_leaf (cf_S_get (T := cf_T5) (N := 24) (idx := 84) rfl (by decide) cf_la5 (cf_mem 470 (by decide +kernel)) (by decide +kernel)))
      (cf_S_leaf (cf_S_callV (d := 3) (idx := 81) (ct_P_run l) sh_P_run rfl (cf_mem 564 (by decide +kernel)) (cf_mem 561 (by decide +kernel)) (cf_mem 563 (by decide +kernel)) (cf_mem 17 (by decide +kernel)) (cf_mem 41 (by decide +kernel)) ⟨⟨by decide +kernel, by decide +kernel⟩, by decide +kernel⟩ ⟨by decide, by decide⟩ (by decide +kernel)))))
    (cf_S_node
     (cf_S_node
      (cf_S_leaf (cf_S_iret (by decide +kernel)))
      (cf_S_leaf (cf_S_aload_n (j := 0) (by decide +kernel) rfl)))
     (cf_S_node
      (cf_S_leaf (cf_S_aload_n (j := 0) (by decide +kernel) rfl))
      (cf_S_leaf (cf_S_get (T := cf_T5) (N := 24) (idx := 7) rfl (by decide) cf_la5 (cf_mem 463 (by decide +kernel)) (by decide +kernel)))))))
  (cf_S_node
   (cf_S_node
    (cf_S_node
     (cf_S_leaf (cf_S_aload_n (j := 0) (by decide +kernel) rfl))
     (cf_S_node
      (cf_S_leaf (cf_S_get (T := cf_T5) (N := 24) (idx := 87) rfl (by decide) cf_la5 (cf_mem 483 (by decide +kernel)) (by decide +kernel)))
      (cf_S_leaf (cf_S_iald (by decide +kernel)))))
    (cf_S_node
     (cf_S_node
      (cf_S_leaf (cf_S_callV (d := 0) (idx := 77) (ct_P_load l) sh_P_load rfl (cf_mem 560 (by decide +kernel)) (cf_mem 557 (by decide +kernel)) (cf_mem 559 (by decide +kernel)) (cf_mem 16 (by decide +kernel)) (cf_mem 41 (by decide +kernel)) ⟨⟨by decide +kernel, by decide +kernel⟩, by decide +kernel⟩ ⟨by decide, by decide⟩ (by decide +kernel)))
      (cf_S_leaf (cf_S_iconst (n := 0) (by decide +kernel) (by decide))))
     (cf_S_node
      (cf_S_leaf (cf_S_istore_n (j := 2) (by decide +kernel) rfl (by decide)))
      (cf_S_leaf (cf_S_iload_n (j := 2) (by decide +kernel) rfl)))))
   (cf_S_node
    (cf_S_node
     (cf_S_leaf (cf_S_bipush (n := 8) (by decide +kernel) (by decide +kernel)))
     (cf_S_node
      (cf_S_leaf (cf_S_icge (off := 51) (by decide +kernel) (by decide)))
      (cf_S_leaf (cf_S_aload_n (j := 0) (by decide +kernel) rfl))))
    (cf_S_node
     (cf_S_node
      (cf_S_leaf (cf_S_get (T := cf_T5) (N := 24) (idx := 28) rfl (by decide) cf_la5 (cf_mem 476 (by decide +kernel)) (by decide +kernel)))
      (cf_S_leaf (cf_S_iload_n (j := 2) (by decide +kernel) rfl)))
     (cf_S_node
      (cf_S_leaf (cf_S_iload_n (j := 1) (by decide +kernel) rfl))
      (cf_S_leaf (cf_S_sipush (n := 1000) (by decide +kernel) (by decide +kernel))))))))
 (cf_S_node
  (cf_S_node
   (cf_S_node
    (cf_S_node
     (cf_S_leaf (cf_S_isub (by decide +kernel)))
     (cf_S_node
      (cf_S_leaf (cf_S_iload_n (j := 2) (by decide +kernel) rfl))
      (cf_S_leaf (cf_S_ishr (by decide +kernel)))))
    (cf_S_node
     (cf_S_node
      (cf_S_leaf (cf_S_iconst (n := 1) (by decide +kernel) (by decide)))
      (cf_S_leaf (cf_S_iand (by decide +kernel))))
     (cf_S_node
      (cf_S_leaf (cf_S_iconst (n := 1) (by decide +kernel) (by decide)))
      (cf_S_leaf (cf_S_icne (off := 20) (by decide +kernel) (by decide))))))
   (cf_S_node
    (cf_S_node
     (cf_S_leaf (cf_S_aload_n (j := 0) (by decide +kernel) rfl))
     (cf_S_node
      (cf_S_leaf (cf_S_get (T := cf_T5) (N := 24) (idx := 16) rfl (by decide) cf_la5 (cf_mem 465 (by decide +kernel)) (by decide +kernel)))
      (cf_S_leaf (cf_S_bipush (n := 8) (by decide +kernel) (by decide +kernel)))))
    (cf_S_node
     (cf_S_node
      (cf_S_leaf (cf_S_aload_n (j := 0) (by decide +kernel) rfl))
      (cf_S_leaf (cf_S_get (T := cf_T5) (N := 24) (idx := 87) rfl (by decide) cf_la5 (cf_mem 483 (by decide +kernel)) (by decide +kernel))))
     (cf_S_node
      (cf_S_leaf (cf_S_imul (by decide +kernel)))
      (cf_S_leaf (cf_S_iload_n (j := 2) (by decide +kernel) rfl))))))
  (cf_S_node
   (cf_S_node
    (cf_S_node
     (cf_S_leaf (cf_S_iadd (by decide +kernel)))
     (cf_S_node
      (cf_S_leaf (cf_S_iald (by decide +kernel)))
      (cf_S_leaf (cf_S_goto (off := 9) (by decide +kernel) (by decide)))))
    (cf_S_node
     (cf_S_node
      (cf_S_leaf (cf_S_aload_n (j := 0) (by decide +kernel) rfl))
      (cf_S_leaf (cf_S_get (T := cf_T5) (N := 24) (idx := 28) rfl (by decide) cf_la5 (cf_mem 476 (by decide +kernel)) (by decide +kernel))))
     (cf_S_node
      (cf_S_leaf (cf_S_iload_n (j := 2) (by decide +kernel) rfl))
      (cf_S_leaf (cf_S_iald (by decide +kernel))))))
   (cf_S_node
    (cf_S_node
     (cf_S_node
      (cf_S_leaf (cf_S_iast (by decide +kernel)))
      (cf_S_leaf (cf_S_iinc (n := 1) (by decide +kernel) (by decide) (by decide))))
     (cf_S_node
      (cf_S_leaf (cf_S_goto (off := -51) (by decide +kernel) (by decide)))
      (cf_S_leaf (cf_S_aload_n (j := 0) (by decide +kernel) rfl))))
    (cf_S_node
     (cf_S_node
      (cf_S_leaf (cf_S_aload_n (j := 0) (by decide +kernel) rfl))
      (cf_S_leaf (cf_S_get (T := cf_T5) (N := 24) (idx := 84) rfl (by decide) cf_la5 (cf_mem 470 (by decide +kernel)) (by decide +kernel))))
     (cf_S_node
      (cf_S_leaf (cf_S_callV (d := 3) (idx := 81) (ct_P_run l) sh_P_run rfl (cf_mem 564 (by decide +kernel)) (cf_mem 561 (by decide +kernel)) (cf_mem 563 (by decide +kernel)) (cf_mem 17 (by decide +kernel)) (cf_mem 41 (by decide +kernel)) ⟨⟨by decide +kernel, by decide +kernel⟩, by decide +kernel⟩ ⟨by decide, by decide⟩ (by decide +kernel)))
      (cf_S_leaf (cf_S_iret (by decide +kernel))))))))
theorem ct_P_judge (l : Launch) : ∀ as w q, F_P_judge as w = some q → cf_Ct l (⟨"CulpritFinderModel", "judge", "(I)I"⟩ : MethodName) prog_7_method_16_code 3 (some .int) 4 as w q := cf_F_ct (sd_P_judge l) (by decide)
theorem sh_P_judge : ∀ as w q, F_P_judge as w = some q → ∃ (k : Nat) (as' : List cf_AV) (fs : List (Option Nat)), as = .inr k :: as' ∧ as'.length = 1 ∧ cf_shp k = .inr (5, fs) := cf_shV_of rfl
set_option maxRecDepth 100000 in
theorem sd_P_begin (l : Launch) (pc : Nat) : cf_S l (cf_rm 2) prog_7_method_17_code 4 "CulpritFinderModel" pc (T_P_begin pc) := cf_S_node
 (cf_S_node
  (cf_S_node
   (cf_S_node
    (cf_S_node
     (cf_S_leaf (cf_S_aload_n (j := 0) (by decide +kernel) rfl))
     (cf_S_leaf (cf_S_iload_n (j := 1) (by decide +kernel) rfl)))
    (cf_S_node
     (cf_S_leaf (cf_S_callV (d := 1) (idx := 48) (ct_P_isCommit l) sh_P_isCommit rfl (cf_mem 541 (by decide +kernel)) (cf_mem 538 (by decide +kernel)) (cf_mem 540 (by decide +kernel)) (cf_mem 15 (by decide +kernel)) (cf_mem 41 (by decide +kernel)) ⟨⟨by decide +kernel, by decide +kernel⟩, by decide +kernel⟩ ⟨by decide, by decide⟩ (by decide +kernel)))
     (cf_S_node
      (cf_S_leaf (cf_S_ifeq (off := 29) (by decide +kernel) (by decide)))
      (cf_S_leaf (cf_S_aload_n (j := 0) (by decide +kernel) rfl)))))
   (cf_S_node
    (cf_S_node
     (cf_S_leaf (cf_S_iload_n (j := 2) (by decide +kernel) rfl))
     (cf_S_leaf (cf_S_callV (d := 1) (idx := 48) (ct_P_isCommit l) sh_P_isCommit rfl (cf_mem 541 (by decide +kernel)) (cf_mem 538 (by decide +kernel)) (cf_mem 540 (by decide +kernel)) (cf_mem 15 (by decide +kernel)) (cf_mem 41 (by decide +kernel)) ⟨⟨by decide +kernel, by decide +kernel⟩, by decide +kernel⟩ ⟨by decide, by decide⟩ (by decide +kernel))))
    (cf_S_node
     (cf_S_leaf (cf_S_ifeq (off := 21) (by decide +kernel) (by decide)))
     (cf_S_node
      (cf_S_leaf (cf_S_iload_n (j := 1) (by decide +kernel) rfl))
      (cf_S_leaf (cf_S_iload_n (j := 2) (by decide +kernel) rfl))))))
  (cf_S_node
   (cf_S_node
    (cf_S_node
     (cf_S_leaf (cf_S_iceq (off := 16) (by decide +kernel) (by decide)))
     (cf_S_leaf (cf_S_aload_n (j := 0) (by decide +kernel) rfl)))
    (cf_S_node
     (cf_S_leaf (cf_S_get (T := cf_T5) (N := 24) (idx := 19) rfl (by decide) cf_la5 (cf_mem 466 (by decide +kernel)) (by decide +kernel)))
     (cf_S_node
      (cf_S_leaf (cf_S_iload_n (j := 2) (by decide +kernel) rfl))
      (cf_S_leaf (cf_S_iald (by decide +kernel))))))
   (cf_S_node
    (cf_S_node
     (cf_S_leaf (cf_S_iload_n (j := 1) (by decide +kernel) rfl))
     (cf_S_node
      (cf_S_leaf (cf_S_ishr (by decide +kernel)))
      (cf_S_leaf (cf_S_iconst (n := 1) (by decide +kernel) (by decide)))))
    (cf_S_node
     (cf_S_leaf (cf_S_iand (by decide +kernel)))
     (cf_S_node
      (cf_S_leaf (cf_S_ifne (off := 5) (by decide +kernel) (by decide)))
      (cf_S_leaf (cf_S_iconst (n := 0) (by decide +kernel) (by decide))))))))
 (cf_S_node
  (cf_S_node
   (cf_S_node
    (cf_S_node
     (cf_S_leaf (cf_S_iret (by decide +kernel)))
     (cf_S_leaf (cf_S_aload_n (j := 0) (by decide +kernel) rfl)))
    (cf_S_node
     (cf_S_leaf (cf_S_iconst (n := 1) (by decide +kernel) (by decide)))
     (cf_S_node
      (cf_S_leaf (cf_S_putz (T := cf_T5) (N := 24) (idx := 52) (tT := cf_y5) rfl (by decide) cf_la5 cf_ty5 cf_nm5 rfl (by decide +kernel) (cf_mem 467 (by decide +kernel)) (by decide +kernel)))
      (cf_S_leaf (cf_S_aload_n (j := 0) (by decide +kernel) rfl)))))
   (cf_S_node
    (cf_S_node
     (cf_S_leaf (cf_S_iload_n (j := 1) (by decide +kernel) rfl))
     (cf_S_leaf (cf_S_put (T := cf_T5) (N := 24) (idx := 90) (tT := cf_y5) rfl (by decide) cf_la5 cf_ty5 cf_nm5 rfl (by decide +kernel) (cf_mem 468 (by decide +kernel)) (by decide +kernel))))
    (cf_S_node
     (cf_S_leaf (cf_S_aload_n (j := 0) (by decide +kernel) rfl))
     (cf_S_node
      (cf_S_leaf (cf_S_iload_n (j := 2) (by decide +kernel) rfl))
      (cf_S_leaf (cf_S_put (T := cf_T5) (N := 24) (idx := 93) (tT := cf_y5) rfl (by decide) cf_la5 cf_ty5 cf_nm5 rfl (by decide +kernel) (cf_mem 469 (by decide +kernel)) (by decide +kernel)))))))
  (cf_S_node
   (cf_S_node
    (cf_S_node
     (cf_S_leaf (cf_S_aload_n (j := 0) (by decide +kernel) rfl))
     (cf_S_leaf (cf_S_iload_n (j := 3) (by decide +kernel) rfl)))
    (cf_S_node
     (cf_S_leaf (cf_S_put (T := cf_T5) (N := 24) (idx := 84) (tT := cf_y5) rfl (by decide) cf_la5 cf_ty5 cf_nm5 rfl (by decide +kernel) (cf_mem 470 (by decide +kernel)) (by decide +kernel)))
     (cf_S_node
      (cf_S_leaf (cf_S_aload_n (j := 0) (by decide +kernel) rfl))
      (cf_S_leaf (cf_S_iconst (n := 0) (by decide +kernel) (by decide))))))
   (cf_S_node
    (cf_S_node
     (cf_S_leaf (cf_S_putz (T := cf_T5) (N := 24) (idx := 96) (tT := cf_y5) rfl (by decide) cf_la5 cf_ty5 cf_nm5 rfl (by decide +kernel) (cf_mem 471 (by decide +kernel)) (by decide +kernel)))
     (cf_S_node
      (cf_S_leaf (cf_S_aload_n (j := 0) (by decide +kernel) rfl))
      (cf_S_leaf (cf_S_iconst (n := 0) (by decide +kernel) (by decide)))))
    (cf_S_node
     (cf_S_leaf (cf_S_put (T := cf_T5) (N := 24) (idx := 99) (tT := cf_y5) rfl (by decide) cf_la5 cf_ty5 cf_nm5 rfl (by decide +kernel) (cf_mem 473 (by decide +kernel)) (by decide +kernel)))
     (cf_S_node
      (cf_S_leaf (cf_S_iconst (n := 1) (by decide +kernel) (by decide)))
      (cf_S_leaf (cf_S_iret (by decide +kernel))))))))
theorem ct_P_begin (l : Launch) : ∀ as w q, F_P_begin as w = some q → cf_Ct l (⟨"CulpritFinderModel", "begin", "(III)Z"⟩ : MethodName) prog_7_method_17_code 4 (some .boolean) 2 as w q := cf_F_ct (sd_P_begin l) (by decide)
theorem sh_P_begin : ∀ as w q, F_P_begin as w = some q → ∃ (k : Nat) (as' : List cf_AV) (fs : List (Option Nat)), as = .inr k :: as' ∧ as'.length = 3 ∧ cf_shp k = .inr (5, fs) := cf_shV_of rfl
set_option maxRecDepth 100000 in
theorem sd_P_end (l : Launch) (pc : Nat) : cf_S l (cf_rm 0) prog_7_method_18_code 2 "CulpritFinderModel" pc (T_P_end pc) := cf_S_node
 (cf_S_node
  (cf_S_node
   (cf_S_leaf (cf_S_aload_n (j := 0) (by decide +kernel) rfl))
   (cf_S_leaf (cf_S_get (T := cf_T5) (N := 24) (idx := 52) rfl (by decide) cf_la5 (cf_mem 467 (by decide +kernel)) (by decide +kernel))))
  (cf_S_node
   (cf_S_leaf (cf_S_istore_n (j := 1) (by decide +kernel) rfl (by decide)))
   (cf_S_node
    (cf_S_leaf (cf_S_aload_n (j := 0) (by decide +kernel) rfl))
    (cf_S_leaf (cf_S_iconst (n := 0) (by decide +kernel) (by decide))))))
 (cf_S_node
  (cf_S_node
   (cf_S_leaf (cf_S_putz (T := cf_T5) (N := 24) (idx := 52) (tT := cf_y5) rfl (by decide) cf_la5 cf_ty5 cf_nm5 rfl (by decide +kernel) (cf_mem 467 (by decide +kernel)) (by decide +kernel)))
   (cf_S_node
    (cf_S_leaf (cf_S_aload_n (j := 0) (by decide +kernel) rfl))
    (cf_S_leaf (cf_S_iconst (n := 0) (by decide +kernel) (by decide)))))
  (cf_S_node
   (cf_S_leaf (cf_S_putz (T := cf_T5) (N := 24) (idx := 96) (tT := cf_y5) rfl (by decide) cf_la5 cf_ty5 cf_nm5 rfl (by decide +kernel) (cf_mem 471 (by decide +kernel)) (by decide +kernel)))
   (cf_S_node
    (cf_S_leaf (cf_S_iload_n (j := 1) (by decide +kernel) rfl))
    (cf_S_leaf (cf_S_iret (by decide +kernel))))))
theorem ct_P_end (l : Launch) : ∀ as w q, F_P_end as w = some q → cf_Ct l (⟨"CulpritFinderModel", "end", "()Z"⟩ : MethodName) prog_7_method_18_code 2 (some .boolean) 0 as w q := cf_F_ct (sd_P_end l) (by decide)
theorem sh_P_end : ∀ as w q, F_P_end as w = some q → ∃ (k : Nat) (as' : List cf_AV) (fs : List (Option Nat)), as = .inr k :: as' ∧ as'.length = 0 ∧ cf_shp k = .inr (5, fs) := cf_shV_of rfl
set_option maxRecDepth 100000 in
theorem sd_P_bits (l : Launch) (pc : Nat) : cf_S l (cf_rm 0) prog_7_method_19_code 3 "CulpritFinderModel" pc (T_P_bits pc) := cf_S_node
 (cf_S_node
  (cf_S_node
   (cf_S_node
    (cf_S_leaf (cf_S_iconst (n := 0) (by decide +kernel) (by decide)))
    (cf_S_leaf (cf_S_istore_n (j := 1) (by decide +kernel) rfl (by decide))))
   (cf_S_node
    (cf_S_leaf (cf_S_iload_n (j := 0) (by decide +kernel) rfl))
    (cf_S_leaf (cf_S_istore_n (j := 2) (by decide +kernel) rfl (by decide)))))
  (cf_S_node
   (cf_S_node
    (cf_S_leaf (cf_S_iload_n (j := 2) (by decide +kernel) rfl))
    (cf_S_leaf (cf_S_ifeq (off := 16) (by decide +kernel) (by decide))))
   (cf_S_node
    (cf_S_leaf (cf_S_iload_n (j := 1) (by decide +kernel) rfl))
    (cf_S_node
     (cf_S_leaf (cf_S_iconst (n := 1) (by decide +kernel) (by decide)))
     (cf_S_leaf (cf_S_iadd (by decide +kernel)))))))
 (cf_S_node
  (cf_S_node
   (cf_S_node
    (cf_S_leaf (cf_S_istore_n (j := 1) (by decide +kernel) rfl (by decide)))
    (cf_S_leaf (cf_S_iload_n (j := 2) (by decide +kernel) rfl)))
   (cf_S_node
    (cf_S_leaf (cf_S_iload_n (j := 2) (by decide +kernel) rfl))
    (cf_S_node
     (cf_S_leaf (cf_S_iconst (n := 1) (by decide +kernel) (by decide)))
     (cf_S_leaf (cf_S_isub (by decide +kernel))))))
  (cf_S_node
   (cf_S_node
    (cf_S_leaf (cf_S_iand (by decide +kernel)))
    (cf_S_leaf (cf_S_istore_n (j := 2) (by decide +kernel) rfl (by decide))))
   (cf_S_node
    (cf_S_leaf (cf_S_goto (off := -14) (by decide +kernel) (by decide)))
    (cf_S_node
     (cf_S_leaf (cf_S_iload_n (j := 1) (by decide +kernel) rfl))
     (cf_S_leaf (cf_S_iret (by decide +kernel)))))))
theorem ct_P_bits (l : Launch) : ∀ as w q, F_P_bits as w = some q → cf_Ct l (⟨"CulpritFinderModel", "bits", "(I)I"⟩ : MethodName) prog_7_method_19_code 3 (some .int) 0 as w q := cf_F_ct (sd_P_bits l) (by decide)
theorem sh_P_bits : ∀ as w q, F_P_bits as w = some q → as.length = 1 := cf_shS_of
set_option maxRecDepth 100000 in
theorem sd_P_known (l : Launch) (pc : Nat) : cf_S l (cf_rm 0) prog_7_method_20_code 5 "CulpritFinderModel" pc (T_P_known pc) := cf_S_node
 (cf_S_node
  (cf_S_node
   (cf_S_node
    (cf_S_leaf (cf_S_iconst (n := 0) (by decide +kernel) (by decide)))
    (cf_S_node
     (cf_S_leaf (cf_S_istore_n (j := 3) (by decide +kernel) rfl (by decide)))
     (cf_S_leaf (cf_S_iconst (n := 0) (by decide +kernel) (by decide)))))
   (cf_S_node
    (cf_S_leaf (cf_S_istore (by decide +kernel) (by decide)))
    (cf_S_node
     (cf_S_leaf (cf_S_iload (by decide +kernel)))
     (cf_S_leaf (cf_S_iload_n (j := 2) (by decide +kernel) rfl)))))
  (cf_S_node
   (cf_S_node
    (cf_S_leaf (cf_S_icge (off := 32) (by decide +kernel) (by decide)))
    (cf_S_node
     (cf_S_leaf (cf_S_aload_n (j := 0) (by decide +kernel) rfl))
     (cf_S_leaf (cf_S_get (T := cf_T5) (N := 24) (idx := 22) rfl (by decide) cf_la5 (cf_mem 474 (by decide +kernel)) (by decide +kernel)))))
   (cf_S_node
    (cf_S_leaf (cf_S_iload (by decide +kernel)))
    (cf_S_node
     (cf_S_leaf (cf_S_iald (by decide +kernel)))
     (cf_S_leaf (cf_S_iload_n (j := 1) (by decide +kernel) rfl))))))
 (cf_S_node
  (cf_S_node
   (cf_S_node
    (cf_S_leaf (cf_S_icne (off := 13) (by decide +kernel) (by decide)))
    (cf_S_node
     (cf_S_leaf (cf_S_aload_n (j := 0) (by decide +kernel) rfl))
     (cf_S_leaf (cf_S_get (T := cf_T5) (N := 24) (idx := 25) rfl (by decide) cf_la5 (cf_mem 475 (by decide +kernel)) (by decide +kernel)))))
   (cf_S_node
    (cf_S_leaf (cf_S_iload (by decide +kernel)))
    (cf_S_node
     (cf_S_leaf (cf_S_iald (by decide +kernel)))
     (cf_S_leaf (cf_S_goto (off := 4) (by decide +kernel) (by decide))))))
  (cf_S_node
   (cf_S_node
    (cf_S_leaf (cf_S_iload_n (j := 3) (by decide +kernel) rfl))
    (cf_S_node
     (cf_S_leaf (cf_S_istore_n (j := 3) (by decide +kernel) rfl (by decide)))
     (cf_S_leaf (cf_S_iinc (n := 1) (by decide +kernel) (by decide) (by decide)))))
   (cf_S_node
    (cf_S_leaf (cf_S_goto (off := -32) (by decide +kernel) (by decide)))
    (cf_S_node
     (cf_S_leaf (cf_S_iload_n (j := 3) (by decide +kernel) rfl))
     (cf_S_leaf (cf_S_iret (by decide +kernel)))))))
theorem ct_P_known (l : Launch) : ∀ as w q, F_P_known as w = some q → cf_Ct l (⟨"CulpritFinderModel", "known", "(II)I"⟩ : MethodName) prog_7_method_20_code 5 (some .int) 0 as w q := cf_F_ct (sd_P_known l) (by decide)
theorem sh_P_known : ∀ as w q, F_P_known as w = some q → ∃ (k : Nat) (as' : List cf_AV) (fs : List (Option Nat)), as = .inr k :: as' ∧ as'.length = 2 ∧ cf_shp k = .inr (5, fs) := cf_shV_of rfl
set_option maxRecDepth 100000 in
theorem sd_P_ask (l : Launch) (pc : Nat) : cf_S l (cf_rm 1) prog_7_method_21_code 3 "CulpritFinderModel" pc (T_P_ask pc) := cf_S_node
 (cf_S_node
  (cf_S_node
   (cf_S_node
    (cf_S_leaf (cf_S_aload_n (j := 0) (by decide +kernel) rfl))
    (cf_S_leaf (cf_S_iload_n (j := 1) (by decide +kernel) rfl)))
   (cf_S_node
    (cf_S_leaf (cf_S_aload_n (j := 0) (by decide +kernel) rfl))
    (cf_S_leaf (cf_S_get (T := cf_T5) (N := 24) (idx := 99) rfl (by decide) cf_la5 (cf_mem 473 (by decide +kernel)) (by decide +kernel)))))
  (cf_S_node
   (cf_S_node
    (cf_S_leaf (cf_S_callV (d := 0) (idx := 102) (ct_P_known l) sh_P_known rfl (cf_mem 616 (by decide +kernel)) (cf_mem 613 (by decide +kernel)) (cf_mem 615 (by decide +kernel)) (cf_mem 27 (by decide +kernel)) (cf_mem 41 (by decide +kernel)) ⟨⟨by decide +kernel, by decide +kernel⟩, by decide +kernel⟩ ⟨by decide, by decide⟩ (by decide +kernel)))
    (cf_S_leaf (cf_S_istore_n (j := 2) (by decide +kernel) rfl (by decide))))
   (cf_S_node
    (cf_S_leaf (cf_S_aload_n (j := 0) (by decide +kernel) rfl))
    (cf_S_leaf (cf_S_iload_n (j := 2) (by decide +kernel) rfl)))))
 (cf_S_node
  (cf_S_node
   (cf_S_node
    (cf_S_leaf (cf_S_ifne (off := 7) (by decide +kernel) (by decide)))
    (cf_S_leaf (cf_S_iload_n (j := 1) (by decide +kernel) rfl)))
   (cf_S_node
    (cf_S_leaf (cf_S_goto (off := 7) (by decide +kernel) (by decide)))
    (cf_S_leaf (cf_S_aload_n (j := 0) (by decide +kernel) rfl))))
  (cf_S_node
   (cf_S_node
    (cf_S_leaf (cf_S_get (T := cf_T5) (N := 24) (idx := 106) rfl (by decide) cf_la5 (cf_mem 481 (by decide +kernel)) (by decide +kernel)))
    (cf_S_leaf (cf_S_put (T := cf_T5) (N := 24) (idx := 106) (tT := cf_y5) rfl (by decide) cf_la5 cf_ty5 cf_nm5 rfl (by decide +kernel) (cf_mem 481 (by decide +kernel)) (by decide +kernel))))
   (cf_S_node
    (cf_S_leaf (cf_S_iload_n (j := 2) (by decide +kernel) rfl))
    (cf_S_leaf (cf_S_iret (by decide +kernel))))))
theorem ct_P_ask (l : Launch) : ∀ as w q, F_P_ask as w = some q → cf_Ct l (⟨"CulpritFinderModel", "ask", "(I)I"⟩ : MethodName) prog_7_method_21_code 3 (some .int) 1 as w q := cf_F_ct (sd_P_ask l) (by decide)
theorem sh_P_ask : ∀ as w q, F_P_ask as w = some q → ∃ (k : Nat) (as' : List cf_AV) (fs : List (Option Nat)), as = .inr k :: as' ∧ as'.length = 1 ∧ cf_shp k = .inr (5, fs) := cf_shV_of rfl
set_option maxRecDepth 100000 in
theorem sd_P_ends (l : Launch) (pc : Nat) : cf_S l (cf_rm 2) prog_7_method_22_code 2 "CulpritFinderModel" pc (T_P_ends pc) := cf_S_node
 (cf_S_node
  (cf_S_node
   (cf_S_node
    (cf_S_node
     (cf_S_leaf (cf_S_aload_n (j := 0) (by decide +kernel) rfl))
     (cf_S_node
      (cf_S_leaf (cf_S_iconst (n := 1) (by decide +kernel) (by decide)))
      (cf_S_leaf (cf_S_put (T := cf_T5) (N := 24) (idx := 109) (tT := cf_y5) rfl (by decide) cf_la5 cf_ty5 cf_nm5 rfl (by decide +kernel) (cf_mem 480 (by decide +kernel)) (by decide +kernel)))))
    (cf_S_node
     (cf_S_leaf (cf_S_aload_n (j := 0) (by decide +kernel) rfl))
     (cf_S_node
      (cf_S_leaf (cf_S_aload_n (j := 0) (by decide +kernel) rfl))
      (cf_S_leaf (cf_S_get (T := cf_T5) (N := 24) (idx := 93) rfl (by decide) cf_la5 (cf_mem 469 (by decide +kernel)) (by decide +kernel))))))
   (cf_S_node
    (cf_S_node
     (cf_S_leaf (cf_S_callV (d := 1) (idx := 112) (ct_P_ask l) sh_P_ask rfl (cf_mem 612 (by decide +kernel)) (cf_mem 609 (by decide +kernel)) (cf_mem 611 (by decide +kernel)) (cf_mem 26 (by decide +kernel)) (cf_mem 41 (by decide +kernel)) ⟨⟨by decide +kernel, by decide +kernel⟩, by decide +kernel⟩ ⟨by decide, by decide⟩ (by decide +kernel)))
     (cf_S_node
      (cf_S_leaf (cf_S_istore_n (j := 1) (by decide +kernel) rfl (by decide)))
      (cf_S_leaf (cf_S_iload_n (j := 1) (by decide +kernel) rfl))))
    (cf_S_node
     (cf_S_leaf (cf_S_ifne (off := 5) (by decide +kernel) (by decide)))
     (cf_S_node
      (cf_S_leaf (cf_S_iconst (n := 0) (by decide +kernel) (by decide)))
      (cf_S_leaf (cf_S_iret (by decide +kernel)))))))
  (cf_S_node
   (cf_S_node
    (cf_S_node
     (cf_S_leaf (cf_S_aload_n (j := 0) (by decide +kernel) rfl))
     (cf_S_node
      (cf_S_leaf (cf_S_iload_n (j := 1) (by decide +kernel) rfl))
      (cf_S_leaf (cf_S_iconst (n := 2) (by decide +kernel) (by decide)))))
    (cf_S_node
     (cf_S_leaf (cf_S_icne (off := 7) (by decide +kernel) (by decide)))
     (cf_S_node
      (cf_S_leaf (cf_S_iconst (n := 1) (by decide +kernel) (by decide)))
      (cf_S_leaf (cf_S_goto (off := 5) (by decide +kernel) (by decide))))))
   (cf_S_node
    (cf_S_node
     (cf_S_leaf (cf_S_bipush (n := 6) (by decide +kernel) (by decide +kernel)))
     (cf_S_node
      (cf_S_leaf (cf_S_put (T := cf_T5) (N := 24) (idx := 109) (tT := cf_y5) rfl (by decide) cf_la5 cf_ty5 cf_nm5 rfl (by decide +kernel) (cf_mem 480 (by decide +kernel)) (by decide +kernel)))
      (cf_S_leaf (cf_S_iload_n (j := 1) (by decide +kernel) rfl))))
    (cf_S_node
     (cf_S_leaf (cf_S_iconst (n := 2) (by decide +kernel) (by decide)))
     (cf_S_node
      (cf_S_leaf (cf_S_iceq (off := 5) (by decide +kernel) (by decide)))
      (cf_S_leaf (cf_S_iconst (n := 0) (by decide +kernel) (by decide))))))))
 (cf_S_node
  (cf_S_node
   (cf_S_node
    (cf_S_node
     (cf_S_leaf (cf_S_iret (by decide +kernel)))
     (cf_S_node
      (cf_S_leaf (cf_S_aload_n (j := 0) (by decide +kernel) rfl))
      (cf_S_leaf (cf_S_aload_n (j := 0) (by decide +kernel) rfl))))
    (cf_S_node
     (cf_S_leaf (cf_S_get (T := cf_T5) (N := 24) (idx := 90) rfl (by decide) cf_la5 (cf_mem 468 (by decide +kernel)) (by decide +kernel)))
     (cf_S_node
      (cf_S_leaf (cf_S_callV (d := 1) (idx := 112) (ct_P_ask l) sh_P_ask rfl (cf_mem 612 (by decide +kernel)) (cf_mem 609 (by decide +kernel)) (cf_mem 611 (by decide +kernel)) (cf_mem 26 (by decide +kernel)) (cf_mem 41 (by decide +kernel)) ⟨⟨by decide +kernel, by decide +kernel⟩, by decide +kernel⟩ ⟨by decide, by decide⟩ (by decide +kernel)))
      (cf_S_leaf (cf_S_istore_n (j := 1) (by decide +kernel) rfl (by decide))))))
   (cf_S_node
    (cf_S_node
     (cf_S_leaf (cf_S_iload_n (j := 1) (by decide +kernel) rfl))
     (cf_S_node
      (cf_S_leaf (cf_S_ifne (off := 5) (by decide +kernel) (by decide)))
      (cf_S_leaf (cf_S_iconst (n := 0) (by decide +kernel) (by decide)))))
    (cf_S_node
     (cf_S_leaf (cf_S_iret (by decide +kernel)))
     (cf_S_node
      (cf_S_leaf (cf_S_aload_n (j := 0) (by decide +kernel) rfl))
      (cf_S_leaf (cf_S_iload_n (j := 1) (by decide +kernel) rfl))))))
  (cf_S_node
   (cf_S_node
    (cf_S_node
     (cf_S_leaf (cf_S_iconst (n := 1) (by decide +kernel) (by decide)))
     (cf_S_node
      (cf_S_leaf (cf_S_icne (off := 7) (by decide +kernel) (by decide)))
      (cf_S_leaf (cf_S_iconst (n := 2) (by decide +kernel) (by decide)))))
    (cf_S_node
     (cf_S_leaf (cf_S_goto (off := 5) (by decide +kernel) (by decide)))
     (cf_S_node
      (cf_S_leaf (cf_S_bipush (n := 6) (by decide +kernel) (by decide +kernel)))
      (cf_S_leaf (cf_S_put (T := cf_T5) (N := 24) (idx := 109) (tT := cf_y5) rfl (by decide) cf_la5 cf_ty5 cf_nm5 rfl (by decide +kernel) (cf_mem 480 (by decide +kernel)) (by decide +kernel))))))
   (cf_S_node
    (cf_S_node
     (cf_S_leaf (cf_S_iload_n (j := 1) (by decide +kernel) rfl))
     (cf_S_node
      (cf_S_leaf (cf_S_iconst (n := 1) (by decide +kernel) (by decide)))
      (cf_S_leaf (cf_S_icne (off := 7) (by decide +kernel) (by decide)))))
    (cf_S_node
     (cf_S_node
      (cf_S_leaf (cf_S_iconst (n := 1) (by decide +kernel) (by decide)))
      (cf_S_leaf (cf_S_goto (off := 4) (by decide +kernel) (by decide))))
     (cf_S_node
      (cf_S_leaf (cf_S_iconst (n := 0) (by decide +kernel) (by decide)))
      (cf_S_leaf (cf_S_iret (by decide +kernel))))))))
theorem ct_P_ends (l : Launch) : ∀ as w q, F_P_ends as w = some q → cf_Ct l (⟨"CulpritFinderModel", "ends", "()Z"⟩ : MethodName) prog_7_method_22_code 2 (some .boolean) 2 as w q := cf_F_ct (sd_P_ends l) (by decide)
theorem sh_P_ends : ∀ as w q, F_P_ends as w = some q → ∃ (k : Nat) (as' : List cf_AV) (fs : List (Option Nat)), as = .inr k :: as' ∧ as'.length = 0 ∧ cf_shp k = .inr (5, fs) := cf_shV_of rfl
set_option maxRecDepth 100000 in
theorem sd_P_weightOf (l : Launch) (pc : Nat) : cf_S l (cf_rm 1) prog_7_method_23_code 2 "CulpritFinderModel" pc (T_P_weightOf pc) := cf_S_node
 (cf_S_node
  (cf_S_node
   (cf_S_node
    (cf_S_leaf (cf_S_aload_n (j := 0) (by decide +kernel) rfl))
    (cf_S_leaf (cf_S_get (T := cf_T5) (N := 24) (idx := 115) rfl (by decide) cf_la5 (cf_mem 482 (by decide +kernel)) (by decide +kernel))))
   (cf_S_node
    (cf_S_leaf (cf_S_iload_n (j := 1) (by decide +kernel) rfl))
    (cf_S_leaf (cf_S_ishr (by decide +kernel)))))
  (cf_S_node
   (cf_S_node
    (cf_S_leaf (cf_S_iconst (n := 1) (by decide +kernel) (by decide)))
    (cf_S_leaf (cf_S_iand (by decide +kernel))))
   (cf_S_node
    (cf_S_leaf (cf_S_ifne (off := 7) (by decide +kernel) (by decide)))
    (cf_S_node
     (cf_S_leaf (cf_S_iconst (n := 0) (by decide +kernel) (by decide)))
     (cf_S_leaf (cf_S_goto (off := 17) (by decide +kernel) (by decide)))))))
 (cf_S_node
  (cf_S_node
   (cf_S_node
    (cf_S_leaf (cf_S_aload_n (j := 0) (by decide +kernel) rfl))
    (cf_S_leaf (cf_S_get (T := cf_T5) (N := 24) (idx := 19) rfl (by decide) cf_la5 (cf_mem 466 (by decide +kernel)) (by decide +kernel))))
   (cf_S_node
    (cf_S_leaf (cf_S_iload_n (j := 1) (by decide +kernel) rfl))
    (cf_S_leaf (cf_S_iald (by decide +kernel)))))
  (cf_S_node
   (cf_S_node
    (cf_S_leaf (cf_S_aload_n (j := 0) (by decide +kernel) rfl))
    (cf_S_leaf (cf_S_get (T := cf_T5) (N := 24) (idx := 115) rfl (by decide) cf_la5 (cf_mem 482 (by decide +kernel)) (by decide +kernel))))
   (cf_S_node
    (cf_S_leaf (cf_S_iand (by decide +kernel)))
    (cf_S_node
     (cf_S_leaf (cf_S_callS (d := 0) (idx := 118) (ct_P_bits l) sh_P_bits (cf_mem 627 (by decide +kernel)) (cf_mem 625 (by decide +kernel)) (cf_mem 626 (by decide +kernel)) (cf_mem 41 (by decide +kernel)) ⟨⟨by decide +kernel, by decide +kernel⟩, by decide +kernel⟩ ⟨by decide, by decide⟩ (by decide +kernel)))
     (cf_S_leaf (cf_S_iret (by decide +kernel)))))))
theorem ct_P_weightOf (l : Launch) : ∀ as w q, F_P_weightOf as w = some q → cf_Ct l (⟨"CulpritFinderModel", "weightOf", "(I)I"⟩ : MethodName) prog_7_method_23_code 2 (some .int) 1 as w q := cf_F_ct (sd_P_weightOf l) (by decide)
theorem sh_P_weightOf : ∀ as w q, F_P_weightOf as w = some q → ∃ (k : Nat) (as' : List cf_AV) (fs : List (Option Nat)), as = .inr k :: as' ∧ as'.length = 1 ∧ cf_shp k = .inr (5, fs) := cf_shV_of rfl
set_option maxRecDepth 100000 in
theorem sd_P_middle (l : Launch) (pc : Nat) : cf_S l (cf_rm 2) prog_7_method_24_code 10 "CulpritFinderModel" pc (T_P_middle pc) := cf_S_node
 (cf_S_node
  (cf_S_node
   (cf_S_node
    (cf_S_node
     (cf_S_node
      (cf_S_leaf (cf_S_iconst (n := -1) (by decide +kernel) (by decide)))
      (cf_S_leaf (cf_S_istore_n (j := 3) (by decide +kernel) rfl (by decide))))
     (cf_S_node
      (cf_S_leaf (cf_S_aload_n (j := 0) (by decide +kernel) rfl))
      (cf_S_leaf (cf_S_get (T := cf_T5) (N := 24) (idx := 115) rfl (by decide) cf_la5 (cf_mem 482 (by decide +kernel)) (by decide +kernel)))))
    (cf_S_node
     (cf_S_node
      (cf_S_leaf (cf_S_callS (d := 0) (idx := 118) (ct_P_bits l) sh_P_bits (cf_mem 627 (by decide +kernel)) (cf_mem 625 (by decide +kernel)) (cf_mem 626 (by decide +kernel)) (cf_mem 41 (by decide +kernel)) ⟨⟨by decide +kernel, by decide +kernel⟩, by decide +kernel⟩ ⟨by decide, by decide⟩ (by decide +kernel)))
      (cf_S_leaf (cf_S_istore (by decide +kernel) (by decide))))
     (cf_S_node
      (cf_S_leaf (cf_S_iconst (n := -1) (by decide +kernel) (by decide)))
      (cf_S_node
       (cf_S_leaf (cf_S_istore (by decide +kernel) (by decide)))
       (cf_S_leaf (cf_S_aload_n (j := 0) (by decide +kernel) rfl))))))
   (cf_S_node
    (cf_S_node
     (cf_S_node
      (cf_S_leaf (cf_S_get (T := cf_T5) (N := 24) (idx := 40) rfl (by decide) cf_la5 (cf_mem 462 (by decide +kernel)) (by decide +kernel)))
      (cf_S_leaf (cf_S_iconst (n := 1) (by decide +kernel) (by decide))))
     (cf_S_node
      (cf_S_leaf (cf_S_isub (by decide +kernel)))
      (cf_S_leaf (cf_S_istore (by decide +kernel) (by decide)))))
    (cf_S_node
     (cf_S_node
      (cf_S_leaf (cf_S_iload (by decide +kernel)))
      (cf_S_leaf (cf_S_iflt (off := 114) (by decide +kernel) (by decide))))
     (cf_S_node
      (cf_S_leaf (cf_S_aload_n (j := 0) (by decide +kernel) rfl))
      (cf_S_node
       (cf_S_leaf (cf_S_iload (by decide +kernel)))
       (cf_S_leaf (cf_S_callV (d := 1) (idx := 121) (ct_P_weightOf l) sh_P_weightOf rfl (cf_mem 631 (by decide +kernel)) (cf_mem 628 (by decide +kernel)) (cf_mem 630 (by decide +kernel)) (cf_mem 30 (by decide +kernel)) (cf_mem 41 (by decide +kernel)) ⟨⟨by decide +kernel, by decide +kernel⟩, by decide +kernel⟩ ⟨by decide, by decide⟩ (by decide +kernel))))))))
  (cf_S_node
   (cf_S_node
    (cf_S_node
     (cf_S_node
      (cf_S_leaf (cf_S_istore (by decide +kernel) (by decide)))
      (cf_S_leaf (cf_S_iload (by decide +kernel))))
     (cf_S_node
      (cf_S_leaf (cf_S_iload (by decide +kernel)))
      (cf_S_leaf (cf_S_iload (by decide +kernel)))))
    (cf_S_node
     (cf_S_node
      (cf_S_leaf (cf_S_isub (by decide +kernel)))
      (cf_S_leaf (cf_S_icge (off := 8) (by decide +kernel) (by decide))))
     (cf_S_node
      (cf_S_leaf (cf_S_iload (by decide +kernel)))
      (cf_S_node
       (cf_S_leaf (cf_S_goto (off := 8) (by decide +kernel) (by decide)))
       (cf_S_leaf (cf_S_iload (by decide +kernel)))))))
   (cf_S_node
    (cf_S_node
     (cf_S_node
      (cf_S_leaf (cf_S_iload (by decide +kernel)))
      (cf_S_leaf (cf_S_isub (by decide +kernel))))
     (cf_S_node
      (cf_S_leaf (cf_S_istore (by decide +kernel) (by decide)))
      (cf_S_leaf (cf_S_aload_n (j := 0) (by decide +kernel) rfl))))
    (cf_S_node
     (cf_S_node
      (cf_S_leaf (cf_S_get (T := cf_T5) (N := 24) (idx := 115) rfl (by decide) cf_la5 (cf_mem 482 (by decide +kernel)) (by decide +kernel)))
      (cf_S_leaf (cf_S_iload (by decide +kernel))))
     (cf_S_node
      (cf_S_leaf (cf_S_ishr (by decide +kernel)))
      (cf_S_node
       (cf_S_leaf (cf_S_iconst (n := 1) (by decide +kernel) (by decide)))
       (cf_S_leaf (cf_S_iand (by decide +kernel)))))))))
 (cf_S_node
  (cf_S_node
   (cf_S_node
    (cf_S_node
     (cf_S_node
      (cf_S_leaf (cf_S_iconst (n := 1) (by decide +kernel) (by decide)))
      (cf_S_leaf (cf_S_icne (off := 22) (by decide +kernel) (by decide))))
     (cf_S_node
      (cf_S_leaf (cf_S_iload (by decide +kernel)))
      (cf_S_leaf (cf_S_iload_n (j := 1) (by decide +kernel) rfl))))
    (cf_S_node
     (cf_S_node
      (cf_S_leaf (cf_S_iceq (off := 16) (by decide +kernel) (by decide)))
      (cf_S_leaf (cf_S_iload_n (j := 2) (by decide +kernel) rfl)))
     (cf_S_node
      (cf_S_leaf (cf_S_iload (by decide +kernel)))
      (cf_S_node
       (cf_S_leaf (cf_S_ishr (by decide +kernel)))
       (cf_S_leaf (cf_S_iconst (n := 1) (by decide +kernel) (by decide)))))))
   (cf_S_node
    (cf_S_node
     (cf_S_node
      (cf_S_leaf (cf_S_iand (by decide +kernel)))
      (cf_S_leaf (cf_S_ifne (off := 7) (by decide +kernel) (by decide))))
     (cf_S_node
      (cf_S_leaf (cf_S_iconst (n := 1) (by decide +kernel) (by decide)))
      (cf_S_leaf (cf_S_goto (off := 4) (by decide +kernel) (by decide)))))
    (cf_S_node
     (cf_S_node
      (cf_S_leaf (cf_S_iconst (n := 0) (by decide +kernel) (by decide)))
      (cf_S_leaf (cf_S_istore (by decide +kernel) (by decide))))
     (cf_S_node
      (cf_S_leaf (cf_S_iload (by decide +kernel)))
      (cf_S_node
       (cf_S_leaf (cf_S_ifeq (off := 15) (by decide +kernel) (by decide)))
       (cf_S_leaf (cf_S_iload (by decide +kernel))))))))
  (cf_S_node
   (cf_S_node
    (cf_S_node
     (cf_S_node
      (cf_S_leaf (cf_S_iload (by decide +kernel)))
      (cf_S_leaf (cf_S_iclt (off := 8) (by decide +kernel) (by decide))))
     (cf_S_node
      (cf_S_leaf (cf_S_iload (by decide +kernel)))
      (cf_S_leaf (cf_S_goto (off := 4) (by decide +kernel) (by decide)))))
    (cf_S_node
     (cf_S_node
      (cf_S_leaf (cf_S_iload_n (j := 3) (by decide +kernel) rfl))
      (cf_S_leaf (cf_S_istore_n (j := 3) (by decide +kernel) rfl (by decide))))
     (cf_S_node
      (cf_S_leaf (cf_S_iload (by decide +kernel)))
      (cf_S_node
       (cf_S_leaf (cf_S_ifeq (off := 15) (by decide +kernel) (by decide)))
       (cf_S_leaf (cf_S_iload (by decide +kernel)))))))
   (cf_S_node
    (cf_S_node
     (cf_S_node
      (cf_S_leaf (cf_S_iload (by decide +kernel)))
      (cf_S_leaf (cf_S_icle (off := 8) (by decide +kernel) (by decide))))
     (cf_S_node
      (cf_S_leaf (cf_S_iload (by decide +kernel)))
      (cf_S_node
       (cf_S_leaf (cf_S_goto (off := 5) (by decide +kernel) (by decide)))
       (cf_S_leaf (cf_S_iload (by decide +kernel))))))
    (cf_S_node
     (cf_S_node
      (cf_S_leaf (cf_S_istore (by decide +kernel) (by decide)))
      (cf_S_leaf (cf_S_iinc (n := -1) (by decide +kernel) (by decide) (by decide))))
     (cf_S_node
      (cf_S_leaf (cf_S_goto (off := -113) (by decide +kernel) (by decide)))
      (cf_S_node
       (cf_S_leaf (cf_S_iload_n (j := 3) (by decide +kernel) rfl))
       (cf_S_leaf (cf_S_iret (by decide +kernel)))))))))
theorem ct_P_middle (l : Launch) : ∀ as w q, F_P_middle as w = some q → cf_Ct l (⟨"CulpritFinderModel", "middle", "(II)I"⟩ : MethodName) prog_7_method_24_code 10 (some .int) 2 as w q := cf_F_ct (sd_P_middle l) (by decide)
theorem sh_P_middle : ∀ as w q, F_P_middle as w = some q → ∃ (k : Nat) (as' : List cf_AV) (fs : List (Option Nat)), as = .inr k :: as' ∧ as'.length = 2 ∧ cf_shp k = .inr (5, fs) := cf_shV_of rfl
set_option maxRecDepth 100000 in
theorem sd_P_halve (l : Launch) (pc : Nat) : cf_S l (cf_rm 3) prog_7_method_25_code 6 "CulpritFinderModel" pc (T_P_halve pc) := cf_S_node
 (cf_S_node
  (cf_S_node
   (cf_S_node
    (cf_S_node
     (cf_S_node
      (cf_S_leaf (cf_S_aload_n (j := 0) (by decide +kernel) rfl))
      (cf_S_node
       (cf_S_leaf (cf_S_get (T := cf_T5) (N := 24) (idx := 93) rfl (by decide) cf_la5 (cf_mem 469 (by decide +kernel)) (by decide +kernel)))
       (cf_S_leaf (cf_S_istore_n (j := 1) (by decide +kernel) rfl (by decide)))))
     (cf_S_node
      (cf_S_node
       (cf_S_leaf (cf_S_iconst (n := 1) (by decide +kernel) (by decide)))
       (cf_S_leaf (cf_S_aload_n (j := 0) (by decide +kernel) rfl)))
      (cf_S_node
       (cf_S_leaf (cf_S_get (T := cf_T5) (N := 24) (idx := 93) rfl (by decide) cf_la5 (cf_mem 469 (by decide +kernel)) (by decide +kernel)))
       (cf_S_leaf (cf_S_ishl (by decide +kernel))))))
    (cf_S_node
     (cf_S_node
      (cf_S_leaf (cf_S_iconst (n := 1) (by decide +kernel) (by decide)))
      (cf_S_node
       (cf_S_leaf (cf_S_aload_n (j := 0) (by decide +kernel) rfl))
       (cf_S_leaf (cf_S_get (T := cf_T5) (N := 24) (idx := 90) rfl (by decide) cf_la5 (cf_mem 468 (by decide +kernel)) (by decide +kernel)))))
     (cf_S_node
      (cf_S_node
       (cf_S_leaf (cf_S_ishl (by decide +kernel)))
       (cf_S_leaf (cf_S_ior (by decide +kernel))))
      (cf_S_node
       (cf_S_leaf (cf_S_istore_n (j := 2) (by decide +kernel) rfl (by decide)))
       (cf_S_leaf (cf_S_aload_n (j := 0) (by decide +kernel) rfl))))))
   (cf_S_node
    (cf_S_node
     (cf_S_node
      (cf_S_leaf (cf_S_aload_n (j := 0) (by decide +kernel) rfl))
      (cf_S_node
       (cf_S_leaf (cf_S_get (T := cf_T5) (N := 24) (idx := 19) rfl (by decide) cf_la5 (cf_mem 466 (by decide +kernel)) (by decide +kernel)))
       (cf_S_leaf (cf_S_aload_n (j := 0) (by decide +kernel) rfl))))
     (cf_S_node
      (cf_S_node
       (cf_S_leaf (cf_S_get (T := cf_T5) (N := 24) (idx := 93) rfl (by decide) cf_la5 (cf_mem 469 (by decide +kernel)) (by decide +kernel)))
       (cf_S_leaf (cf_S_iald (by decide +kernel))))
      (cf_S_node
       (cf_S_leaf (cf_S_aload_n (j := 0) (by decide +kernel) rfl))
       (cf_S_leaf (cf_S_get (T := cf_T5) (N := 24) (idx := 19) rfl (by decide) cf_la5 (cf_mem 466 (by decide +kernel)) (by decide +kernel))))))
    (cf_S_node
     (cf_S_node
      (cf_S_node
       (cf_S_leaf (cf_S_aload_n (j := 0) (by decide +kernel) rfl))
       (cf_S_leaf (cf_S_get (T := cf_T5) (N := 24) (idx := 90) rfl (by decide) cf_la5 (cf_mem 468 (by decide +kernel)) (by decide +kernel))))
      (cf_S_node
       (cf_S_leaf (cf_S_iald (by decide +kernel)))
       (cf_S_leaf (cf_S_iconst (n := -1) (by decide +kernel) (by decide)))))
     (cf_S_node
      (cf_S_node
       (cf_S_leaf (cf_S_ixor (by decide +kernel)))
       (cf_S_leaf (cf_S_iand (by decide +kernel))))
      (cf_S_node
       (cf_S_leaf (cf_S_put (T := cf_T5) (N := 24) (idx := 115) (tT := cf_y5) rfl (by decide) cf_la5 cf_ty5 cf_nm5 rfl (by decide +kernel) (cf_mem 482 (by decide +kernel)) (by decide +kernel)))
       (cf_S_leaf (cf_S_iconst (n := 0) (by decide +kernel) (by decide))))))))
  (cf_S_node
   (cf_S_node
    (cf_S_node
     (cf_S_node
      (cf_S_leaf (cf_S_istore_n (j := 3) (by decide +kernel) rfl (by decide)))
      (cf_S_node
       (cf_S_leaf (cf_S_iload_n (j := 3) (by decide +kernel) rfl))
       (cf_S_leaf (cf_S_bipush (n := 16) (by decide +kernel) (by decide +kernel)))))
     (cf_S_node
      (cf_S_node
       (cf_S_leaf (cf_S_icge (off := 157) (by decide +kernel) (by decide)))
       (cf_S_leaf (cf_S_aload_n (j := 0) (by decide +kernel) rfl)))
      (cf_S_node
       (cf_S_leaf (cf_S_iload_n (j := 1) (by decide +kernel) rfl))
       (cf_S_leaf (cf_S_iload_n (j := 2) (by decide +kernel) rfl)))))
    (cf_S_node
     (cf_S_node
      (cf_S_node
       (cf_S_leaf (cf_S_callV (d := 2) (idx := 124) (ct_P_middle l) sh_P_middle rfl (cf_mem 624 (by decide +kernel)) (cf_mem 621 (by decide +kernel)) (cf_mem 623 (by decide +kernel)) (cf_mem 29 (by decide +kernel)) (cf_mem 41 (by decide +kernel)) ⟨⟨by decide +kernel, by decide +kernel⟩, by decide +kernel⟩ ⟨by decide, by decide⟩ (by decide +kernel)))
       (cf_S_leaf (cf_S_istore (by decide +kernel) (by decide))))
      (cf_S_node
       (cf_S_leaf (cf_S_iload (by decide +kernel)))
       (cf_S_leaf (cf_S_ifge (off := 51) (by decide +kernel) (by decide)))))
     (cf_S_node
      (cf_S_node
       (cf_S_leaf (cf_S_aload_n (j := 0) (by decide +kernel) rfl))
       (cf_S_leaf (cf_S_get (T := cf_T5) (N := 24) (idx := 115) rfl (by decide) cf_la5 (cf_mem 482 (by decide +kernel)) (by decide +kernel))))
      (cf_S_node
       (cf_S_leaf (cf_S_iconst (n := 1) (by decide +kernel) (by decide)))
       (cf_S_leaf (cf_S_iload_n (j := 1) (by decide +kernel) rfl))))))
   (cf_S_node
    (cf_S_node
     (cf_S_node
      (cf_S_leaf (cf_S_ishl (by decide +kernel)))
      (cf_S_node
       (cf_S_leaf (cf_S_icne (off := 7) (by decide +kernel) (by decide)))
       (cf_S_leaf (cf_S_iconst (n := 1) (by decide +kernel) (by decide)))))
     (cf_S_node
      (cf_S_node
       (cf_S_leaf (cf_S_goto (off := 4) (by decide +kernel) (by decide)))
       (cf_S_leaf (cf_S_iconst (n := 0) (by decide +kernel) (by decide))))
      (cf_S_node
       (cf_S_leaf (cf_S_istore (by decide +kernel) (by decide)))
       (cf_S_leaf (cf_S_aload_n (j := 0) (by decide +kernel) rfl)))))
    (cf_S_node
     (cf_S_node
      (cf_S_node
       (cf_S_leaf (cf_S_iload (by decide +kernel)))
       (cf_S_leaf (cf_S_ifeq (off := 7) (by decide +kernel) (by decide))))
      (cf_S_node
       (cf_S_leaf (cf_S_iload_n (j := 1) (by decide +kernel) rfl))
       (cf_S_leaf (cf_S_goto (off := 4) (by decide +kernel) (by decide)))))
     (cf_S_node
      (cf_S_node
       (cf_S_leaf (cf_S_iconst (n := -1) (by decide +kernel) (by decide)))
       (cf_S_leaf (cf_S_put (T := cf_T5) (N := 24) (idx := 87) (tT := cf_y5) rfl (by decide) cf_la5 cf_ty5 cf_nm5 rfl (by decide +kernel) (cf_mem 483 (by decide +kernel)) (by decide +kernel))))
      (cf_S_node
       (cf_S_leaf (cf_S_aload_n (j := 0) (by decide +kernel) rfl))
       (cf_S_leaf (cf_S_iload (by decide +kernel)))))))))
 (cf_S_node
  (cf_S_node
   (cf_S_node
    (cf_S_node
     (cf_S_node
      (cf_S_leaf (cf_S_ifeq (off := 7) (by decide +kernel) (by decide)))
      (cf_S_node
       (cf_S_leaf (cf_S_iconst (n := 3) (by decide +kernel) (by decide)))
       (cf_S_leaf (cf_S_goto (off := 4) (by decide +kernel) (by decide)))))
     (cf_S_node
      (cf_S_node
       (cf_S_leaf (cf_S_iconst (n := 5) (by decide +kernel) (by decide)))
       (cf_S_leaf (cf_S_put (T := cf_T5) (N := 24) (idx := 109) (tT := cf_y5) rfl (by decide) cf_la5 cf_ty5 cf_nm5 rfl (by decide +kernel) (cf_mem 480 (by decide +kernel)) (by decide +kernel))))
      (cf_S_node
       (cf_S_leaf (cf_S_iload (by decide +kernel)))
       (cf_S_leaf (cf_S_iret (by decide +kernel))))))
    (cf_S_node
     (cf_S_node
      (cf_S_node
       (cf_S_leaf (cf_S_aload_n (j := 0) (by decide +kernel) rfl))
       (cf_S_leaf (cf_S_iload (by decide +kernel))))
      (cf_S_node
       (cf_S_leaf (cf_S_callV (d := 1) (idx := 112) (ct_P_ask l) sh_P_ask rfl (cf_mem 612 (by decide +kernel)) (cf_mem 609 (by decide +kernel)) (cf_mem 611 (by decide +kernel)) (cf_mem 26 (by decide +kernel)) (cf_mem 41 (by decide +kernel)) ⟨⟨by decide +kernel, by decide +kernel⟩, by decide +kernel⟩ ⟨by decide, by decide⟩ (by decide +kernel)))
       (cf_S_leaf (cf_S_istore (by decide +kernel) (by decide)))))
     (cf_S_node
      (cf_S_node
       (cf_S_leaf (cf_S_iload (by decide +kernel)))
       (cf_S_leaf (cf_S_ifne (off := 5) (by decide +kernel) (by decide))))
      (cf_S_node
       (cf_S_leaf (cf_S_iconst (n := 0) (by decide +kernel) (by decide)))
       (cf_S_leaf (cf_S_iret (by decide +kernel)))))))
   (cf_S_node
    (cf_S_node
     (cf_S_node
      (cf_S_leaf (cf_S_iload_n (j := 2) (by decide +kernel) rfl))
      (cf_S_node
       (cf_S_leaf (cf_S_iconst (n := 1) (by decide +kernel) (by decide)))
       (cf_S_leaf (cf_S_iload (by decide +kernel)))))
     (cf_S_node
      (cf_S_node
       (cf_S_leaf (cf_S_ishl (by decide +kernel)))
       (cf_S_leaf (cf_S_ior (by decide +kernel))))
      (cf_S_node
       (cf_S_leaf (cf_S_istore_n (j := 2) (by decide +kernel) rfl (by decide)))
       (cf_S_leaf (cf_S_iload (by decide +kernel))))))
    (cf_S_node
     (cf_S_node
      (cf_S_node
       (cf_S_leaf (cf_S_iconst (n := 2) (by decide +kernel) (by decide)))
       (cf_S_leaf (cf_S_icne (off := 8) (by decide +kernel) (by decide))))
      (cf_S_node
       (cf_S_leaf (cf_S_iload (by decide +kernel)))
       (cf_S_leaf (cf_S_goto (off := 4) (by decide +kernel) (by decide)))))
     (cf_S_node
      (cf_S_node
       (cf_S_leaf (cf_S_iload_n (j := 1) (by decide +kernel) rfl))
       (cf_S_leaf (cf_S_istore_n (j := 1) (by decide +kernel) rfl (by decide))))
      (cf_S_node
       (cf_S_leaf (cf_S_aload_n (j := 0) (by decide +kernel) rfl))
       (cf_S_leaf (cf_S_iload (by decide +kernel))))))))
  (cf_S_node
   (cf_S_node
    (cf_S_node
     (cf_S_node
      (cf_S_leaf (cf_S_iconst (n := 2) (by decide +kernel) (by decide)))
      (cf_S_node
       (cf_S_leaf (cf_S_icne (off := 18) (by decide +kernel) (by decide)))
       (cf_S_leaf (cf_S_aload_n (j := 0) (by decide +kernel) rfl))))
     (cf_S_node
      (cf_S_node
       (cf_S_leaf (cf_S_get (T := cf_T5) (N := 24) (idx := 115) rfl (by decide) cf_la5 (cf_mem 482 (by decide +kernel)) (by decide +kernel)))
       (cf_S_leaf (cf_S_aload_n (j := 0) (by decide +kernel) rfl)))
      (cf_S_node
       (cf_S_leaf (cf_S_get (T := cf_T5) (N := 24) (idx := 19) rfl (by decide) cf_la5 (cf_mem 466 (by decide +kernel)) (by decide +kernel)))
       (cf_S_leaf (cf_S_iload (by decide +kernel))))))
    (cf_S_node
     (cf_S_node
      (cf_S_node
       (cf_S_leaf (cf_S_iald (by decide +kernel)))
       (cf_S_leaf (cf_S_iand (by decide +kernel))))
      (cf_S_node
       (cf_S_leaf (cf_S_goto (off := 30) (by decide +kernel) (by decide)))
       (cf_S_leaf (cf_S_iload (by decide +kernel)))))
     (cf_S_node
      (cf_S_node
       (cf_S_leaf (cf_S_iconst (n := 1) (by decide +kernel) (by decide)))
       (cf_S_leaf (cf_S_icne (off := 20) (by decide +kernel) (by decide))))
      (cf_S_node
       (cf_S_leaf (cf_S_aload_n (j := 0) (by decide +kernel) rfl))
       (cf_S_leaf (cf_S_get (T := cf_T5) (N := 24) (idx := 115) rfl (by decide) cf_la5 (cf_mem 482 (by decide +kernel)) (by decide +kernel)))))))
   (cf_S_node
    (cf_S_node
     (cf_S_node
      (cf_S_leaf (cf_S_aload_n (j := 0) (by decide +kernel) rfl))
      (cf_S_node
       (cf_S_leaf (cf_S_get (T := cf_T5) (N := 24) (idx := 19) rfl (by decide) cf_la5 (cf_mem 466 (by decide +kernel)) (by decide +kernel)))
       (cf_S_leaf (cf_S_iload (by decide +kernel)))))
     (cf_S_node
      (cf_S_node
       (cf_S_leaf (cf_S_iald (by decide +kernel)))
       (cf_S_leaf (cf_S_iconst (n := -1) (by decide +kernel) (by decide))))
      (cf_S_node
       (cf_S_leaf (cf_S_ixor (by decide +kernel)))
       (cf_S_leaf (cf_S_iand (by decide +kernel))))))
    (cf_S_node
     (cf_S_node
      (cf_S_node
       (cf_S_leaf (cf_S_goto (off := 7) (by decide +kernel) (by decide)))
       (cf_S_leaf (cf_S_aload_n (j := 0) (by decide +kernel) rfl)))
      (cf_S_node
       (cf_S_leaf (cf_S_get (T := cf_T5) (N := 24) (idx := 115) rfl (by decide) cf_la5 (cf_mem 482 (by decide +kernel)) (by decide +kernel)))
       (cf_S_leaf (cf_S_put (T := cf_T5) (N := 24) (idx := 115) (tT := cf_y5) rfl (by decide) cf_la5 cf_ty5 cf_nm5 rfl (by decide +kernel) (cf_mem 482 (by decide +kernel)) (by decide +kernel)))))
     (cf_S_node
      (cf_S_node
       (cf_S_leaf (cf_S_iinc (n := 1) (by decide +kernel) (by decide) (by decide)))
       (cf_S_leaf (cf_S_goto (off := -157) (by decide +kernel) (by decide))))
      (cf_S_node
       (cf_S_leaf (cf_S_iconst (n := 0) (by decide +kernel) (by decide)))
       (cf_S_leaf (cf_S_iret (by decide +kernel)))))))))
theorem ct_P_halve (l : Launch) : ∀ as w q, F_P_halve as w = some q → cf_Ct l (⟨"CulpritFinderModel", "halve", "()Z"⟩ : MethodName) prog_7_method_25_code 6 (some .boolean) 3 as w q := cf_F_ct (sd_P_halve l) (by decide)
theorem sh_P_halve : ∀ as w q, F_P_halve as w = some q → ∃ (k : Nat) (as' : List cf_AV) (fs : List (Option Nat)), as = .inr k :: as' ∧ as'.length = 0 ∧ cf_shp k = .inr (5, fs) := cf_shV_of rfl
