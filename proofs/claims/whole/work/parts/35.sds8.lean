set_option maxRecDepth 100000 in
theorem sd_P_crash (l : Launch) (pc : Nat) : cf_S l (cf_rm 0) prog_7_method_34_code 1 "CulpritFinderModel" pc (T_P_crash pc) := cf_S_node
 (cf_S_node
  (cf_S_node
   (cf_S_leaf (cf_S_aload_n (j := 0) (by decide +kernel) rfl))
   (cf_S_leaf (cf_S_get (T := cf_T5) (N := 24) (idx := 52) rfl (by decide) cf_la5 (cf_mem 467 (by decide +kernel)) (by decide +kernel))))
  (cf_S_node
   (cf_S_leaf (cf_S_ifne (off := 5) (by decide +kernel) (by decide)))
   (cf_S_node
    (cf_S_leaf (cf_S_iconst (n := 0) (by decide +kernel) (by decide)))
    (cf_S_leaf (cf_S_iret (by decide +kernel))))))
 (cf_S_node
  (cf_S_node
   (cf_S_leaf (cf_S_aload_n (j := 0) (by decide +kernel) rfl))
   (cf_S_leaf (cf_S_iconst (n := 0) (by decide +kernel) (by decide))))
  (cf_S_node
   (cf_S_leaf (cf_S_putz (T := cf_T5) (N := 24) (idx := 96) (tT := cf_y5) rfl (by decide) cf_la5 cf_ty5 cf_nm5 rfl (by decide +kernel) (cf_mem 471 (by decide +kernel)) (by decide +kernel)))
   (cf_S_node
    (cf_S_leaf (cf_S_iconst (n := 1) (by decide +kernel) (by decide)))
    (cf_S_leaf (cf_S_iret (by decide +kernel))))))
theorem ct_P_crash (l : Launch) : ∀ as w q, F_P_crash as w = some q → cf_Ct l (⟨"CulpritFinderModel", "crash", "()Z"⟩ : MethodName) prog_7_method_34_code 1 (some .boolean) 0 as w q := cf_F_ct (sd_P_crash l) (by decide)
theorem sh_P_crash : ∀ as w q, F_P_crash as w = some q → ∃ (k : Nat) (as' : List cf_AV) (fs : List (Option Nat)), as = .inr k :: as' ∧ as'.length = 0 ∧ cf_shp k = .inr (5, fs) := cf_shV_of rfl
set_option maxRecDepth 100000 in
theorem sd_P_journal (l : Launch) (pc : Nat) : cf_S l (cf_rm 0) prog_7_method_35_code 1 "CulpritFinderModel" pc (T_P_journal pc) := cf_S_node
 (cf_S_node
  (cf_S_node
   (cf_S_leaf (cf_S_aload_n (j := 0) (by decide +kernel) rfl))
   (cf_S_leaf (cf_S_get (T := cf_T5) (N := 24) (idx := 52) rfl (by decide) cf_la5 (cf_mem 467 (by decide +kernel)) (by decide +kernel))))
  (cf_S_node
   (cf_S_leaf (cf_S_ifeq (off := 10) (by decide +kernel) (by decide)))
   (cf_S_leaf (cf_S_aload_n (j := 0) (by decide +kernel) rfl))))
 (cf_S_node
  (cf_S_node
   (cf_S_leaf (cf_S_get (T := cf_T5) (N := 24) (idx := 99) rfl (by decide) cf_la5 (cf_mem 473 (by decide +kernel)) (by decide +kernel)))
   (cf_S_leaf (cf_S_goto (off := 4) (by decide +kernel) (by decide))))
  (cf_S_node
   (cf_S_leaf (cf_S_iconst (n := 0) (by decide +kernel) (by decide)))
   (cf_S_leaf (cf_S_iret (by decide +kernel)))))
theorem ct_P_journal (l : Launch) : ∀ as w q, F_P_journal as w = some q → cf_Ct l (⟨"CulpritFinderModel", "journal", "()I"⟩ : MethodName) prog_7_method_35_code 1 (some .int) 0 as w q := cf_F_ct (sd_P_journal l) (by decide)
theorem sh_P_journal : ∀ as w q, F_P_journal as w = some q → ∃ (k : Nat) (as' : List cf_AV) (fs : List (Option Nat)), as = .inr k :: as' ∧ as'.length = 0 ∧ cf_shp k = .inr (5, fs) := cf_shV_of rfl
set_option maxRecDepth 100000 in
theorem sd_P_entry (l : Launch) (pc : Nat) : cf_S l (cf_rm 1) prog_7_method_36_code 2 "CulpritFinderModel" pc (T_P_entry pc) := cf_S_node
 (cf_S_node
  (cf_S_node
   (cf_S_node
    (cf_S_leaf (cf_S_aload_n (j := 0) (by decide +kernel) rfl))
    (cf_S_node
     (cf_S_leaf (cf_S_get (T := cf_T5) (N := 24) (idx := 52) rfl (by decide) cf_la5 (cf_mem 467 (by decide +kernel)) (by decide +kernel)))
     (cf_S_leaf (cf_S_ifeq (off := 36) (by decide +kernel) (by decide)))))
   (cf_S_node
    (cf_S_leaf (cf_S_iload_n (j := 1) (by decide +kernel) rfl))
    (cf_S_node
     (cf_S_leaf (cf_S_iconst (n := 0) (by decide +kernel) (by decide)))
     (cf_S_leaf (cf_S_aload_n (j := 0) (by decide +kernel) rfl)))))
  (cf_S_node
   (cf_S_node
    (cf_S_leaf (cf_S_get (T := cf_T5) (N := 24) (idx := 99) rfl (by decide) cf_la5 (cf_mem 473 (by decide +kernel)) (by decide +kernel)))
    (cf_S_node
     (cf_S_leaf (cf_S_iconst (n := 1) (by decide +kernel) (by decide)))
     (cf_S_leaf (cf_S_isub (by decide +kernel)))))
   (cf_S_node
    (cf_S_leaf (cf_S_callS (d := 0) (idx := 44) (ct_P_in l) sh_P_in (cf_mem 544 (by decide +kernel)) (cf_mem 542 (by decide +kernel)) (cf_mem 543 (by decide +kernel)) (cf_mem 41 (by decide +kernel)) ⟨⟨by decide +kernel, by decide +kernel⟩, by decide +kernel⟩ ⟨by decide, by decide⟩ (by decide +kernel)))
    (cf_S_node
     (cf_S_leaf (cf_S_ifeq (off := 22) (by decide +kernel) (by decide)))
     (cf_S_leaf (cf_S_bipush (n := 10) (by decide +kernel) (by decide +kernel)))))))
 (cf_S_node
  (cf_S_node
   (cf_S_node
    (cf_S_leaf (cf_S_aload_n (j := 0) (by decide +kernel) rfl))
    (cf_S_node
     (cf_S_leaf (cf_S_get (T := cf_T5) (N := 24) (idx := 22) rfl (by decide) cf_la5 (cf_mem 474 (by decide +kernel)) (by decide +kernel)))
     (cf_S_leaf (cf_S_iload_n (j := 1) (by decide +kernel) rfl))))
   (cf_S_node
    (cf_S_leaf (cf_S_iald (by decide +kernel)))
    (cf_S_node
     (cf_S_leaf (cf_S_imul (by decide +kernel)))
     (cf_S_leaf (cf_S_aload_n (j := 0) (by decide +kernel) rfl)))))
  (cf_S_node
   (cf_S_node
    (cf_S_leaf (cf_S_get (T := cf_T5) (N := 24) (idx := 25) rfl (by decide) cf_la5 (cf_mem 475 (by decide +kernel)) (by decide +kernel)))
    (cf_S_node
     (cf_S_leaf (cf_S_iload_n (j := 1) (by decide +kernel) rfl))
     (cf_S_leaf (cf_S_iald (by decide +kernel)))))
   (cf_S_node
    (cf_S_node
     (cf_S_leaf (cf_S_iadd (by decide +kernel)))
     (cf_S_leaf (cf_S_goto (off := 4) (by decide +kernel) (by decide))))
    (cf_S_node
     (cf_S_leaf (cf_S_iconst (n := -1) (by decide +kernel) (by decide)))
     (cf_S_leaf (cf_S_iret (by decide +kernel)))))))
theorem ct_P_entry (l : Launch) : ∀ as w q, F_P_entry as w = some q → cf_Ct l (⟨"CulpritFinderModel", "entry", "(I)I"⟩ : MethodName) prog_7_method_36_code 2 (some .int) 1 as w q := cf_F_ct (sd_P_entry l) (by decide)
theorem sh_P_entry : ∀ as w q, F_P_entry as w = some q → ∃ (k : Nat) (as' : List cf_AV) (fs : List (Option Nat)), as = .inr k :: as' ∧ as'.length = 1 ∧ cf_shp k = .inr (5, fs) := cf_shV_of rfl
set_option maxRecDepth 100000 in
theorem sd_P_state (l : Launch) (pc : Nat) : cf_S l (cf_rm 6) prog_7_method_37_code 1 "CulpritFinderModel" pc (T_P_state pc) := cf_S_node
 (cf_S_node
  (cf_S_leaf (cf_S_aload_n (j := 0) (by decide +kernel) rfl))
  (cf_S_leaf (cf_S_callV (d := 5) (idx := 150) (ct_P_work l) sh_P_work rfl (cf_mem 604 (by decide +kernel)) (cf_mem 601 (by decide +kernel)) (cf_mem 603 (by decide +kernel)) (cf_mem 24 (by decide +kernel)) (cf_mem 41 (by decide +kernel)) ⟨⟨by decide +kernel, by decide +kernel⟩, by decide +kernel⟩ ⟨by decide, by decide⟩ (by decide +kernel))))
 (cf_S_node
  (cf_S_leaf (cf_S_aload_n (j := 0) (by decide +kernel) rfl))
  (cf_S_node
   (cf_S_leaf (cf_S_get (T := cf_T5) (N := 24) (idx := 109) rfl (by decide) cf_la5 (cf_mem 480 (by decide +kernel)) (by decide +kernel)))
   (cf_S_leaf (cf_S_iret (by decide +kernel)))))
theorem ct_P_state (l : Launch) : ∀ as w q, F_P_state as w = some q → cf_Ct l (⟨"CulpritFinderModel", "state", "()I"⟩ : MethodName) prog_7_method_37_code 1 (some .int) 6 as w q := cf_F_ct (sd_P_state l) (by decide)
theorem sh_P_state : ∀ as w q, F_P_state as w = some q → ∃ (k : Nat) (as' : List cf_AV) (fs : List (Option Nat)), as = .inr k :: as' ∧ as'.length = 0 ∧ cf_shp k = .inr (5, fs) := cf_shV_of rfl
set_option maxRecDepth 100000 in
theorem sd_P_suspects (l : Launch) (pc : Nat) : cf_S l (cf_rm 6) prog_7_method_38_code 1 "CulpritFinderModel" pc (T_P_suspects pc) := cf_S_node
 (cf_S_node
  (cf_S_leaf (cf_S_aload_n (j := 0) (by decide +kernel) rfl))
  (cf_S_leaf (cf_S_callV (d := 5) (idx := 150) (ct_P_work l) sh_P_work rfl (cf_mem 604 (by decide +kernel)) (cf_mem 601 (by decide +kernel)) (cf_mem 603 (by decide +kernel)) (cf_mem 24 (by decide +kernel)) (cf_mem 41 (by decide +kernel)) ⟨⟨by decide +kernel, by decide +kernel⟩, by decide +kernel⟩ ⟨by decide, by decide⟩ (by decide +kernel))))
 (cf_S_node
  (cf_S_leaf (cf_S_aload_n (j := 0) (by decide +kernel) rfl))
  (cf_S_node
   (cf_S_leaf (cf_S_get (T := cf_T5) (N := 24) (idx := 115) rfl (by decide) cf_la5 (cf_mem 482 (by decide +kernel)) (by decide +kernel)))
   (cf_S_leaf (cf_S_iret (by decide +kernel)))))
theorem ct_P_suspects (l : Launch) : ∀ as w q, F_P_suspects as w = some q → cf_Ct l (⟨"CulpritFinderModel", "suspects", "()I"⟩ : MethodName) prog_7_method_38_code 1 (some .int) 6 as w q := cf_F_ct (sd_P_suspects l) (by decide)
theorem sh_P_suspects : ∀ as w q, F_P_suspects as w = some q → ∃ (k : Nat) (as' : List cf_AV) (fs : List (Option Nat)), as = .inr k :: as' ∧ as'.length = 0 ∧ cf_shp k = .inr (5, fs) := cf_shV_of rfl
set_option maxRecDepth 100000 in
theorem sd_P_weight (l : Launch) (pc : Nat) : cf_S l (cf_rm 6) prog_7_method_39_code 2 "CulpritFinderModel" pc (T_P_weight pc) := cf_S_node
 (cf_S_node
  (cf_S_node
   (cf_S_leaf (cf_S_aload_n (j := 0) (by decide +kernel) rfl))
   (cf_S_node
    (cf_S_leaf (cf_S_callV (d := 5) (idx := 150) (ct_P_work l) sh_P_work rfl (cf_mem 604 (by decide +kernel)) (cf_mem 601 (by decide +kernel)) (cf_mem 603 (by decide +kernel)) (cf_mem 24 (by decide +kernel)) (cf_mem 41 (by decide +kernel)) ⟨⟨by decide +kernel, by decide +kernel⟩, by decide +kernel⟩ ⟨by decide, by decide⟩ (by decide +kernel)))
    (cf_S_leaf (cf_S_aload_n (j := 0) (by decide +kernel) rfl))))
  (cf_S_node
   (cf_S_leaf (cf_S_iload_n (j := 1) (by decide +kernel) rfl))
   (cf_S_node
    (cf_S_leaf (cf_S_callV (d := 1) (idx := 48) (ct_P_isCommit l) sh_P_isCommit rfl (cf_mem 541 (by decide +kernel)) (cf_mem 538 (by decide +kernel)) (cf_mem 540 (by decide +kernel)) (cf_mem 15 (by decide +kernel)) (cf_mem 41 (by decide +kernel)) ⟨⟨by decide +kernel, by decide +kernel⟩, by decide +kernel⟩ ⟨by decide, by decide⟩ (by decide +kernel)))
    (cf_S_leaf (cf_S_ifeq (off := 11) (by decide +kernel) (by decide))))))
 (cf_S_node
  (cf_S_node
   (cf_S_leaf (cf_S_aload_n (j := 0) (by decide +kernel) rfl))
   (cf_S_node
    (cf_S_leaf (cf_S_iload_n (j := 1) (by decide +kernel) rfl))
    (cf_S_leaf (cf_S_callV (d := 1) (idx := 121) (ct_P_weightOf l) sh_P_weightOf rfl (cf_mem 631 (by decide +kernel)) (cf_mem 628 (by decide +kernel)) (cf_mem 630 (by decide +kernel)) (cf_mem 30 (by decide +kernel)) (cf_mem 41 (by decide +kernel)) ⟨⟨by decide +kernel, by decide +kernel⟩, by decide +kernel⟩ ⟨by decide, by decide⟩ (by decide +kernel)))))
  (cf_S_node
   (cf_S_leaf (cf_S_goto (off := 4) (by decide +kernel) (by decide)))
   (cf_S_node
    (cf_S_leaf (cf_S_iconst (n := 0) (by decide +kernel) (by decide)))
    (cf_S_leaf (cf_S_iret (by decide +kernel))))))
theorem ct_P_weight (l : Launch) : ∀ as w q, F_P_weight as w = some q → cf_Ct l (⟨"CulpritFinderModel", "weight", "(I)I"⟩ : MethodName) prog_7_method_39_code 2 (some .int) 6 as w q := cf_F_ct (sd_P_weight l) (by decide)
theorem sh_P_weight : ∀ as w q, F_P_weight as w = some q → ∃ (k : Nat) (as' : List cf_AV) (fs : List (Option Nat)), as = .inr k :: as' ∧ as'.length = 1 ∧ cf_shp k = .inr (5, fs) := cf_shV_of rfl
set_option maxRecDepth 100000 in
theorem sd_P_culprit (l : Launch) (pc : Nat) : cf_S l (cf_rm 6) prog_7_method_40_code 1 "CulpritFinderModel" pc (T_P_culprit pc) := cf_S_node
 (cf_S_node
  (cf_S_leaf (cf_S_aload_n (j := 0) (by decide +kernel) rfl))
  (cf_S_leaf (cf_S_callV (d := 5) (idx := 150) (ct_P_work l) sh_P_work rfl (cf_mem 604 (by decide +kernel)) (cf_mem 601 (by decide +kernel)) (cf_mem 603 (by decide +kernel)) (cf_mem 24 (by decide +kernel)) (cf_mem 41 (by decide +kernel)) ⟨⟨by decide +kernel, by decide +kernel⟩, by decide +kernel⟩ ⟨by decide, by decide⟩ (by decide +kernel))))
 (cf_S_node
  (cf_S_leaf (cf_S_aload_n (j := 0) (by decide +kernel) rfl))
  (cf_S_node
   (cf_S_leaf (cf_S_get (T := cf_T5) (N := 24) (idx := 87) rfl (by decide) cf_la5 (cf_mem 483 (by decide +kernel)) (by decide +kernel)))
   (cf_S_leaf (cf_S_iret (by decide +kernel)))))
theorem ct_P_culprit (l : Launch) : ∀ as w q, F_P_culprit as w = some q → cf_Ct l (⟨"CulpritFinderModel", "culprit", "()I"⟩ : MethodName) prog_7_method_40_code 1 (some .int) 6 as w q := cf_F_ct (sd_P_culprit l) (by decide)
theorem sh_P_culprit : ∀ as w q, F_P_culprit as w = some q → ∃ (k : Nat) (as' : List cf_AV) (fs : List (Option Nat)), as = .inr k :: as' ∧ as'.length = 0 ∧ cf_shp k = .inr (5, fs) := cf_shV_of rfl
set_option maxRecDepth 100000 in
theorem sd_P_reduced (l : Launch) (pc : Nat) : cf_S l (cf_rm 6) prog_7_method_41_code 1 "CulpritFinderModel" pc (T_P_reduced pc) := cf_S_node
 (cf_S_node
  (cf_S_leaf (cf_S_aload_n (j := 0) (by decide +kernel) rfl))
  (cf_S_leaf (cf_S_callV (d := 5) (idx := 150) (ct_P_work l) sh_P_work rfl (cf_mem 604 (by decide +kernel)) (cf_mem 601 (by decide +kernel)) (cf_mem 603 (by decide +kernel)) (cf_mem 24 (by decide +kernel)) (cf_mem 41 (by decide +kernel)) ⟨⟨by decide +kernel, by decide +kernel⟩, by decide +kernel⟩ ⟨by decide, by decide⟩ (by decide +kernel))))
 (cf_S_node
  (cf_S_leaf (cf_S_aload_n (j := 0) (by decide +kernel) rfl))
  (cf_S_node
   (cf_S_leaf (cf_S_get (T := cf_T5) (N := 24) (idx := 127) rfl (by decide) cf_la5 (cf_mem 484 (by decide +kernel)) (by decide +kernel)))
   (cf_S_leaf (cf_S_iret (by decide +kernel)))))
theorem ct_P_reduced (l : Launch) : ∀ as w q, F_P_reduced as w = some q → cf_Ct l (⟨"CulpritFinderModel", "reduced", "()I"⟩ : MethodName) prog_7_method_41_code 1 (some .int) 6 as w q := cf_F_ct (sd_P_reduced l) (by decide)
theorem sh_P_reduced : ∀ as w q, F_P_reduced as w = some q → ∃ (k : Nat) (as' : List cf_AV) (fs : List (Option Nat)), as = .inr k :: as' ∧ as'.length = 0 ∧ cf_shp k = .inr (5, fs) := cf_shV_of rfl
set_option maxRecDepth 100000 in
theorem sd_P_started (l : Launch) (pc : Nat) : cf_S l (cf_rm 0) prog_7_method_42_code 1 "CulpritFinderModel" pc (T_P_started pc) := cf_S_node
 (cf_S_leaf (cf_S_aload_n (j := 0) (by decide +kernel) rfl))
 (cf_S_node
  (cf_S_leaf (cf_S_get (T := cf_T5) (N := 24) (idx := 153) rfl (by decide) cf_la5 (cf_mem 472 (by decide +kernel)) (by decide +kernel)))
  (cf_S_leaf (cf_S_iret (by decide +kernel))))
theorem ct_P_started (l : Launch) : ∀ as w q, F_P_started as w = some q → cf_Ct l (⟨"CulpritFinderModel", "started", "()I"⟩ : MethodName) prog_7_method_42_code 1 (some .int) 0 as w q := cf_F_ct (sd_P_started l) (by decide)
theorem sh_P_started : ∀ as w q, F_P_started as w = some q → ∃ (k : Nat) (as' : List cf_AV) (fs : List (Option Nat)), as = .inr k :: as' ∧ as'.length = 0 ∧ cf_shp k = .inr (5, fs) := cf_shV_of rfl
