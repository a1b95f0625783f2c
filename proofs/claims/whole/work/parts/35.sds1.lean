set_option maxRecDepth 100000 in
theorem sd_H_has (l : Launch) (pc : Nat) : cf_S l (cf_rm 0) prog_2_method_2_code 2 "CulpritFinder$History" pc (T_H_has pc) := cf_S_node
 (cf_S_node
  (cf_S_node
   (cf_S_leaf (cf_S_iload_n (j := 1) (by decide +kernel) rfl))
   (cf_S_leaf (cf_S_iflt (off := 15) (by decide +kernel) (by decide))))
  (cf_S_node
   (cf_S_leaf (cf_S_iload_n (j := 1) (by decide +kernel) rfl))
   (cf_S_node
    (cf_S_leaf (cf_S_aload_n (j := 0) (by decide +kernel) rfl))
    (cf_S_leaf (cf_S_get (T := cf_T0) (N := 5) (idx := 25) rfl (by decide) cf_la0 (cf_mem 66 (by decide +kernel)) (by decide +kernel))))))
 (cf_S_node
  (cf_S_node
   (cf_S_leaf (cf_S_icge (off := 7) (by decide +kernel) (by decide)))
   (cf_S_leaf (cf_S_iconst (n := 1) (by decide +kernel) (by decide))))
  (cf_S_node
   (cf_S_leaf (cf_S_goto (off := 4) (by decide +kernel) (by decide)))
   (cf_S_node
    (cf_S_leaf (cf_S_iconst (n := 0) (by decide +kernel) (by decide)))
    (cf_S_leaf (cf_S_iret (by decide +kernel))))))
theorem ct_H_has (l : Launch) : ∀ as w q, F_H_has as w = some q → cf_Ct l (⟨"CulpritFinder$History", "has", "(I)Z"⟩ : MethodName) prog_2_method_2_code 2 (some .boolean) 0 as w q := cf_F_ct (sd_H_has l) (by decide)
theorem sh_H_has : ∀ as w q, F_H_has as w = some q → ∃ (k : Nat) (as' : List cf_AV) (fs : List (Option Nat)), as = .inr k :: as' ∧ as'.length = 1 ∧ cf_shp k = .inr (0, fs) := cf_shV_of rfl
set_option maxRecDepth 100000 in
theorem sd_H_mayAdd (l : Launch) (pc : Nat) : cf_S l (cf_rm 1) prog_2_method_8_code 3 "CulpritFinder$History" pc (T_H_mayAdd pc) := cf_S_node
 (cf_S_node
  (cf_S_node
   (cf_S_node
    (cf_S_node
     (cf_S_leaf (cf_S_aload_n (j := 0) (by decide +kernel) rfl))
     (cf_S_leaf (cf_S_get (T := cf_T0) (N := 5) (idx := 25) rfl (by decide) cf_la0 (cf_mem 66 (by decide +kernel)) (by decide +kernel))))
    (cf_S_node
     (cf_S_leaf (cf_S_bipush (n := 14) (by decide +kernel) (by decide +kernel)))
     (cf_S_leaf (cf_S_icne (off := 5) (by decide +kernel) (by decide)))))
   (cf_S_node
    (cf_S_node
     (cf_S_leaf (cf_S_iconst (n := 0) (by decide +kernel) (by decide)))
     (cf_S_leaf (cf_S_iret (by decide +kernel))))
    (cf_S_node
     (cf_S_leaf (cf_S_iload_n (j := 1) (by decide +kernel) rfl))
     (cf_S_leaf (cf_S_iconst (n := -1) (by decide +kernel) (by decide))))))
  (cf_S_node
   (cf_S_node
    (cf_S_node
     (cf_S_leaf (cf_S_icne (off := 14) (by decide +kernel) (by decide)))
     (cf_S_leaf (cf_S_iload_n (j := 2) (by decide +kernel) rfl)))
    (cf_S_node
     (cf_S_leaf (cf_S_iconst (n := -1) (by decide +kernel) (by decide)))
     (cf_S_leaf (cf_S_icne (off := 7) (by decide +kernel) (by decide)))))
   (cf_S_node
    (cf_S_node
     (cf_S_leaf (cf_S_iconst (n := 1) (by decide +kernel) (by decide)))
     (cf_S_leaf (cf_S_goto (off := 4) (by decide +kernel) (by decide))))
    (cf_S_node
     (cf_S_leaf (cf_S_iconst (n := 0) (by decide +kernel) (by decide)))
     (cf_S_node
      (cf_S_leaf (cf_S_iret (by decide +kernel)))
      (cf_S_leaf (cf_S_aload_n (j := 0) (by decide +kernel) rfl)))))))
 (cf_S_node
  (cf_S_node
   (cf_S_node
    (cf_S_node
     (cf_S_leaf (cf_S_iload_n (j := 1) (by decide +kernel) rfl))
     (cf_S_leaf (cf_S_callV (d := 0) (idx := 28) (ct_H_has l) sh_H_has rfl (cf_mem 202 (by decide +kernel)) (cf_mem 199 (by decide +kernel)) (cf_mem 200 (by decide +kernel)) (cf_mem 201 (by decide +kernel)) (cf_mem 37 (by decide +kernel)) ⟨⟨by decide +kernel, by decide +kernel⟩, by decide +kernel⟩ ⟨by decide, by decide⟩ (by decide +kernel))))
    (cf_S_node
     (cf_S_leaf (cf_S_ifeq (off := 25) (by decide +kernel) (by decide)))
     (cf_S_leaf (cf_S_iload_n (j := 2) (by decide +kernel) rfl))))
   (cf_S_node
    (cf_S_node
     (cf_S_leaf (cf_S_iconst (n := -1) (by decide +kernel) (by decide)))
     (cf_S_leaf (cf_S_iceq (off := 16) (by decide +kernel) (by decide))))
    (cf_S_node
     (cf_S_leaf (cf_S_aload_n (j := 0) (by decide +kernel) rfl))
     (cf_S_leaf (cf_S_iload_n (j := 2) (by decide +kernel) rfl)))))
  (cf_S_node
   (cf_S_node
    (cf_S_node
     (cf_S_leaf (cf_S_callV (d := 0) (idx := 28) (ct_H_has l) sh_H_has rfl (cf_mem 202 (by decide +kernel)) (cf_mem 199 (by decide +kernel)) (cf_mem 200 (by decide +kernel)) (cf_mem 201 (by decide +kernel)) (cf_mem 37 (by decide +kernel)) ⟨⟨by decide +kernel, by decide +kernel⟩, by decide +kernel⟩ ⟨by decide, by decide⟩ (by decide +kernel)))
     (cf_S_leaf (cf_S_ifeq (off := 12) (by decide +kernel) (by decide))))
    (cf_S_node
     (cf_S_leaf (cf_S_iload_n (j := 2) (by decide +kernel) rfl))
     (cf_S_leaf (cf_S_iload_n (j := 1) (by decide +kernel) rfl))))
   (cf_S_node
    (cf_S_node
     (cf_S_leaf (cf_S_iceq (off := 7) (by decide +kernel) (by decide)))
     (cf_S_leaf (cf_S_iconst (n := 1) (by decide +kernel) (by decide))))
    (cf_S_node
     (cf_S_leaf (cf_S_goto (off := 4) (by decide +kernel) (by decide)))
     (cf_S_node
      (cf_S_leaf (cf_S_iconst (n := 0) (by decide +kernel) (by decide)))
      (cf_S_leaf (cf_S_iret (by decide +kernel))))))))
theorem ct_H_mayAdd (l : Launch) : ∀ as w q, F_H_mayAdd as w = some q → cf_Ct l (⟨"CulpritFinder$History", "mayAdd", "(II)Z"⟩ : MethodName) prog_2_method_8_code 3 (some .boolean) 1 as w q := cf_F_ct (sd_H_mayAdd l) (by decide)
theorem sh_H_mayAdd : ∀ as w q, F_H_mayAdd as w = some q → ∃ (k : Nat) (as' : List cf_AV) (fs : List (Option Nat)), as = .inr k :: as' ∧ as'.length = 2 ∧ cf_shp k = .inr (0, fs) := cf_shV_of rfl
set_option maxRecDepth 100000 in
theorem sd_H_addParent (l : Launch) (pc : Nat) : cf_S l (cf_rm 0) prog_2_method_10_code 3 "CulpritFinder$History" pc (T_H_addParent pc) := cf_S_node
 (cf_S_node
  (cf_S_node
   (cf_S_node
    (cf_S_leaf (cf_S_aload_n (j := 0) (by decide +kernel) rfl))
    (cf_S_leaf (cf_S_dup (by decide +kernel))))
   (cf_S_node
    (cf_S_leaf (cf_S_get (T := cf_T0) (N := 5) (idx := 21) rfl (by decide) cf_la0 (cf_mem 65 (by decide +kernel)) (by decide +kernel)))
    (cf_S_node
     (cf_S_leaf (cf_S_iconst (n := 1) (by decide +kernel) (by decide)))
     (cf_S_leaf (cf_S_iload_n (j := 2) (by decide +kernel) rfl)))))
  (cf_S_node
   (cf_S_node
    (cf_S_leaf (cf_S_ishl (by decide +kernel)))
    (cf_S_leaf (cf_S_ior (by decide +kernel))))
   (cf_S_node
    (cf_S_leaf (cf_S_put (T := cf_T0) (N := 5) (idx := 21) (tT := cf_y0) rfl (by decide) cf_la0 cf_ty0 cf_nm0 rfl (by decide +kernel) (cf_mem 65 (by decide +kernel)) (by decide +kernel)))
    (cf_S_node
     (cf_S_leaf (cf_S_aload_n (j := 0) (by decide +kernel) rfl))
     (cf_S_leaf (cf_S_get (T := cf_T0) (N := 5) (idx := 15) rfl (by decide) cf_la0 (cf_mem 62 (by decide +kernel)) (by decide +kernel)))))))
 (cf_S_node
  (cf_S_node
   (cf_S_node
    (cf_S_leaf (cf_S_iload_n (j := 1) (by decide +kernel) rfl))
    (cf_S_leaf (cf_S_dup2 (by decide +kernel))))
   (cf_S_node
    (cf_S_leaf (cf_S_iald (by decide +kernel)))
    (cf_S_node
     (cf_S_leaf (cf_S_aload_n (j := 0) (by decide +kernel) rfl))
     (cf_S_leaf (cf_S_get (T := cf_T0) (N := 5) (idx := 15) rfl (by decide) cf_la0 (cf_mem 62 (by decide +kernel)) (by decide +kernel))))))
  (cf_S_node
   (cf_S_node
    (cf_S_leaf (cf_S_iload_n (j := 2) (by decide +kernel) rfl))
    (cf_S_leaf (cf_S_iald (by decide +kernel))))
   (cf_S_node
    (cf_S_leaf (cf_S_ior (by decide +kernel)))
    (cf_S_node
     (cf_S_leaf (cf_S_iast (by decide +kernel)))
     (cf_S_leaf (cf_S_vret (by decide +kernel)))))))
theorem ct_H_addParent (l : Launch) : ∀ as w q, F_H_addParent as w = some q → cf_Ct l (⟨"CulpritFinder$History", "addParent", "(II)V"⟩ : MethodName) prog_2_method_10_code 3 none 0 as w q := cf_F_ct (sd_H_addParent l) (by decide)
theorem sh_H_addParent : ∀ as w q, F_H_addParent as w = some q → ∃ (k : Nat) (as' : List cf_AV) (fs : List (Option Nat)), as = .inr k :: as' ∧ as'.length = 2 ∧ cf_shp k = .inr (0, fs) := cf_shV_of rfl
set_option maxRecDepth 100000 in
theorem sd_H_add (l : Launch) (pc : Nat) : cf_S l (cf_rm 1) prog_2_method_9_code 4 "CulpritFinder$History" pc (T_H_add pc) := cf_S_node
 (cf_S_node
  (cf_S_node
   (cf_S_node
    (cf_S_node
     (cf_S_leaf (cf_S_aload_n (j := 0) (by decide +kernel) rfl))
     (cf_S_node
      (cf_S_leaf (cf_S_get (T := cf_T0) (N := 5) (idx := 25) rfl (by decide) cf_la0 (cf_mem 66 (by decide +kernel)) (by decide +kernel)))
      (cf_S_leaf (cf_S_istore_n (j := 3) (by decide +kernel) rfl (by decide)))))
    (cf_S_node
     (cf_S_leaf (cf_S_aload_n (j := 0) (by decide +kernel) rfl))
     (cf_S_node
      (cf_S_leaf (cf_S_dup (by decide +kernel)))
      (cf_S_leaf (cf_S_get (T := cf_T0) (N := 5) (idx := 25) rfl (by decide) cf_la0 (cf_mem 66 (by decide +kernel)) (by decide +kernel))))))
   (cf_S_node
    (cf_S_node
     (cf_S_leaf (cf_S_iconst (n := 1) (by decide +kernel) (by decide)))
     (cf_S_node
      (cf_S_leaf (cf_S_iadd (by decide +kernel)))
      (cf_S_leaf (cf_S_put (T := cf_T0) (N := 5) (idx := 25) (tT := cf_y0) rfl (by decide) cf_la0 cf_ty0 cf_nm0 rfl (by decide +kernel) (cf_mem 66 (by decide +kernel)) (by decide +kernel)))))
    (cf_S_node
     (cf_S_leaf (cf_S_aload_n (j := 0) (by decide +kernel) rfl))
     (cf_S_node
      (cf_S_leaf (cf_S_get (T := cf_T0) (N := 5) (idx := 9) rfl (by decide) cf_la0 (cf_mem 60 (by decide +kernel)) (by decide +kernel)))
      (cf_S_leaf (cf_S_iload_n (j := 3) (by decide +kernel) rfl))))))
  (cf_S_node
   (cf_S_node
    (cf_S_node
     (cf_S_leaf (cf_S_iload_n (j := 1) (by decide +kernel) rfl))
     (cf_S_node
      (cf_S_leaf (cf_S_iast (by decide +kernel)))
      (cf_S_leaf (cf_S_aload_n (j := 0) (by decide +kernel) rfl))))
    (cf_S_node
     (cf_S_leaf (cf_S_get (T := cf_T0) (N := 5) (idx := 15) rfl (by decide) cf_la0 (cf_mem 62 (by decide +kernel)) (by decide +kernel)))
     (cf_S_node
      (cf_S_leaf (cf_S_iload_n (j := 3) (by decide +kernel) rfl))
      (cf_S_leaf (cf_S_iconst (n := 1) (by decide +kernel) (by decide))))))
   (cf_S_node
    (cf_S_node
     (cf_S_leaf (cf_S_iload_n (j := 3) (by decide +kernel) rfl))
     (cf_S_node
      (cf_S_leaf (cf_S_ishl (by decide +kernel)))
      (cf_S_leaf (cf_S_iast (by decide +kernel)))))
    (cf_S_node
     (cf_S_leaf (cf_S_iload_n (j := 1) (by decide +kernel) rfl))
     (cf_S_node
      (cf_S_leaf (cf_S_iconst (n := -1) (by decide +kernel) (by decide)))
      (cf_S_leaf (cf_S_iceq (off := 30) (by decide +kernel) (by decide))))))))
 (cf_S_node
  (cf_S_node
   (cf_S_node
    (cf_S_node
     (cf_S_leaf (cf_S_aload_n (j := 0) (by decide +kernel) rfl))
     (cf_S_node
      (cf_S_leaf (cf_S_get (T := cf_T0) (N := 5) (idx := 18) rfl (by decide) cf_la0 (cf_mem 64 (by decide +kernel)) (by decide +kernel)))
      (cf_S_leaf (cf_S_iload_n (j := 1) (by decide +kernel) rfl))))
    (cf_S_node
     (cf_S_leaf (cf_S_bipush (n := 8) (by decide +kernel) (by decide +kernel)))
     (cf_S_node
      (cf_S_leaf (cf_S_imul (by decide +kernel)))
      (cf_S_leaf (cf_S_aload_n (j := 0) (by decide +kernel) rfl)))))
   (cf_S_node
    (cf_S_node
     (cf_S_leaf (cf_S_get (T := cf_T0) (N := 5) (idx := 18) rfl (by decide) cf_la0 (cf_mem 64 (by decide +kernel)) (by decide +kernel)))
     (cf_S_node
      (cf_S_leaf (cf_S_iload_n (j := 3) (by decide +kernel) rfl))
      (cf_S_leaf (cf_S_bipush (n := 8) (by decide +kernel) (by decide +kernel)))))
    (cf_S_node
     (cf_S_leaf (cf_S_imul (by decide +kernel)))
     (cf_S_node
      (cf_S_leaf (cf_S_bipush (n := 8) (by decide +kernel) (by decide +kernel)))
      (cf_S_leaf (cf_S_cpy (idx := 32) (cf_mem 207 (by decide +kernel)) (cf_mem 209 (by decide +kernel)) (cf_mem 208 (by decide +kernel)) (cf_mem 42 (by decide +kernel)) ⟨by decide, by decide +kernel⟩ (by decide +kernel)))))))
  (cf_S_node
   (cf_S_node
    (cf_S_node
     (cf_S_leaf (cf_S_aload_n (j := 0) (by decide +kernel) rfl))
     (cf_S_node
      (cf_S_leaf (cf_S_iload_n (j := 3) (by decide +kernel) rfl))
      (cf_S_leaf (cf_S_iload_n (j := 1) (by decide +kernel) rfl))))
    (cf_S_node
     (cf_S_leaf (cf_S_callV (d := 0) (idx := 38) (ct_H_addParent l) sh_H_addParent rfl (cf_mem 213 (by decide +kernel)) (cf_mem 210 (by decide +kernel)) (cf_mem 212 (by decide +kernel)) (cf_mem 0 (by decide +kernel)) (cf_mem 37 (by decide +kernel)) ⟨⟨by decide +kernel, by decide +kernel⟩, by decide +kernel⟩ ⟨by decide, by decide⟩ (by decide +kernel)))
     (cf_S_node
      (cf_S_leaf (cf_S_iload_n (j := 2) (by decide +kernel) rfl))
      (cf_S_leaf (cf_S_iconst (n := -1) (by decide +kernel) (by decide))))))
   (cf_S_node
    (cf_S_node
     (cf_S_leaf (cf_S_iceq (off := 9) (by decide +kernel) (by decide)))
     (cf_S_node
      (cf_S_leaf (cf_S_aload_n (j := 0) (by decide +kernel) rfl))
      (cf_S_leaf (cf_S_iload_n (j := 3) (by decide +kernel) rfl))))
    (cf_S_node
     (cf_S_node
      (cf_S_leaf (cf_S_iload_n (j := 2) (by decide +kernel) rfl))
      (cf_S_leaf (cf_S_callV (d := 0) (idx := 38) (ct_H_addParent l) sh_H_addParent rfl (cf_mem 213 (by decide +kernel)) (cf_mem 210 (by decide +kernel)) (cf_mem 212 (by decide +kernel)) (cf_mem 0 (by decide +kernel)) (cf_mem 37 (by decide +kernel)) ⟨⟨by decide +kernel, by decide +kernel⟩, by decide +kernel⟩ ⟨by decide, by decide⟩ (by decide +kernel))))
     (cf_S_node
      (cf_S_leaf (cf_S_iload_n (j := 3) (by decide +kernel) rfl))
      (cf_S_leaf (cf_S_iret (by decide +kernel))))))))
theorem ct_H_add (l : Launch) : ∀ as w q, F_H_add as w = some q → cf_Ct l (⟨"CulpritFinder$History", "add", "(II)I"⟩ : MethodName) prog_2_method_9_code 4 (some .int) 1 as w q := cf_F_ct (sd_H_add l) (by decide)
theorem sh_H_add : ∀ as w q, F_H_add as w = some q → ∃ (k : Nat) (as' : List cf_AV) (fs : List (Option Nat)), as = .inr k :: as' ∧ as'.length = 2 ∧ cf_shp k = .inr (0, fs) := cf_shV_of rfl
set_option maxRecDepth 100000 in
theorem sd_C_commit (l : Launch) (pc : Nat) : cf_S l (cf_rm 2) prog_1_method_2_code 3 "CulpritFinder" pc (T_C_commit pc) := cf_S_node
 (cf_S_node
  (cf_S_node
   (cf_S_leaf (cf_S_aload_n (j := 0) (by decide +kernel) rfl))
   (cf_S_node
    (cf_S_leaf (cf_S_get (T := cf_T4) (N := 3) (idx := 12) rfl (by decide) cf_la4 (cf_mem 181 (by decide +kernel)) (by decide +kernel)))
    (cf_S_leaf (cf_S_iload_n (j := 1) (by decide +kernel) rfl))))
  (cf_S_node
   (cf_S_node
    (cf_S_leaf (cf_S_iload_n (j := 2) (by decide +kernel) rfl))
    (cf_S_leaf (cf_S_callV (d := 1) (idx := 32) (ct_H_mayAdd l) sh_H_mayAdd rfl (cf_mem 198 (by decide +kernel)) (cf_mem 195 (by decide +kernel)) (cf_mem 196 (by decide +kernel)) (cf_mem 197 (by decide +kernel)) (cf_mem 37 (by decide +kernel)) ⟨⟨by decide +kernel, by decide +kernel⟩, by decide +kernel⟩ ⟨by decide, by decide⟩ (by decide +kernel))))
   (cf_S_node
    (cf_S_leaf (cf_S_ifeq (off := 15) (by decide +kernel) (by decide)))
    (cf_S_leaf (cf_S_aload_n (j := 0) (by decide +kernel) rfl)))))
 (cf_S_node
  (cf_S_node
   (cf_S_leaf (cf_S_get (T := cf_T4) (N := 3) (idx := 12) rfl (by decide) cf_la4 (cf_mem 181 (by decide +kernel)) (by decide +kernel)))
   (cf_S_node
    (cf_S_leaf (cf_S_iload_n (j := 1) (by decide +kernel) rfl))
    (cf_S_leaf (cf_S_iload_n (j := 2) (by decide +kernel) rfl))))
  (cf_S_node
   (cf_S_node
    (cf_S_leaf (cf_S_callV (d := 1) (idx := 36) (ct_H_add l) sh_H_add rfl (cf_mem 206 (by decide +kernel)) (cf_mem 203 (by decide +kernel)) (cf_mem 204 (by decide +kernel)) (cf_mem 205 (by decide +kernel)) (cf_mem 37 (by decide +kernel)) ⟨⟨by decide +kernel, by decide +kernel⟩, by decide +kernel⟩ ⟨by decide, by decide⟩ (by decide +kernel)))
    (cf_S_leaf (cf_S_goto (off := 4) (by decide +kernel) (by decide))))
   (cf_S_node
    (cf_S_leaf (cf_S_iconst (n := -1) (by decide +kernel) (by decide)))
    (cf_S_leaf (cf_S_iret (by decide +kernel))))))
theorem ct_C_commit (l : Launch) : ∀ as w q, F_C_commit as w = some q → cf_Ct l (⟨"CulpritFinder", "commit", "(II)I"⟩ : MethodName) prog_1_method_2_code 3 (some .int) 2 as w q := cf_F_ct (sd_C_commit l) (by decide)
theorem sh_C_commit : ∀ as w q, F_C_commit as w = some q → ∃ (k : Nat) (as' : List cf_AV) (fs : List (Option Nat)), as = .inr k :: as' ∧ as'.length = 2 ∧ cf_shp k = .inr (4, fs) := cf_shV_of rfl
set_option maxRecDepth 100000 in
theorem sd_H_hasLine (l : Launch) (pc : Nat) : cf_S l (cf_rm 1) prog_2_method_3_code 3 "CulpritFinder$History" pc (T_H_hasLine pc) := cf_S_node
 (cf_S_node
  (cf_S_node
   (cf_S_leaf (cf_S_aload_n (j := 0) (by decide +kernel) rfl))
   (cf_S_node
    (cf_S_leaf (cf_S_iload_n (j := 1) (by decide +kernel) rfl))
    (cf_S_leaf (cf_S_callV (d := 0) (idx := 28) (ct_H_has l) sh_H_has rfl (cf_mem 202 (by decide +kernel)) (cf_mem 199 (by decide +kernel)) (cf_mem 200 (by decide +kernel)) (cf_mem 201 (by decide +kernel)) (cf_mem 37 (by decide +kernel)) ⟨⟨by decide +kernel, by decide +kernel⟩, by decide +kernel⟩ ⟨by decide, by decide⟩ (by decide +kernel)))))
  (cf_S_node
   (cf_S_leaf (cf_S_ifeq (off := 17) (by decide +kernel) (by decide)))
   (cf_S_node
    (cf_S_leaf (cf_S_iload_n (j := 2) (by decide +kernel) rfl))
    (cf_S_leaf (cf_S_iflt (off := 13) (by decide +kernel) (by decide))))))
 (cf_S_node
  (cf_S_node
   (cf_S_leaf (cf_S_iload_n (j := 2) (by decide +kernel) rfl))
   (cf_S_node
    (cf_S_leaf (cf_S_bipush (n := 8) (by decide +kernel) (by decide +kernel)))
    (cf_S_leaf (cf_S_icge (off := 7) (by decide +kernel) (by decide)))))
  (cf_S_node
   (cf_S_node
    (cf_S_leaf (cf_S_iconst (n := 1) (by decide +kernel) (by decide)))
    (cf_S_leaf (cf_S_goto (off := 4) (by decide +kernel) (by decide))))
   (cf_S_node
    (cf_S_leaf (cf_S_iconst (n := 0) (by decide +kernel) (by decide)))
    (cf_S_leaf (cf_S_iret (by decide +kernel))))))
theorem ct_H_hasLine (l : Launch) : ∀ as w q, F_H_hasLine as w = some q → cf_Ct l (⟨"CulpritFinder$History", "hasLine", "(II)Z"⟩ : MethodName) prog_2_method_3_code 3 (some .boolean) 1 as w q := cf_F_ct (sd_H_hasLine l) (by decide)
theorem sh_H_hasLine : ∀ as w q, F_H_hasLine as w = some q → ∃ (k : Nat) (as' : List cf_AV) (fs : List (Option Nat)), as = .inr k :: as' ∧ as'.length = 2 ∧ cf_shp k = .inr (0, fs) := cf_shV_of rfl
set_option maxRecDepth 100000 in
theorem sd_H_isParent (l : Launch) (pc : Nat) : cf_S l (cf_rm 0) prog_2_method_4_code 2 "CulpritFinder$History" pc (T_H_isParent pc) := cf_S_node
 (cf_S_node
  (cf_S_node
   (cf_S_leaf (cf_S_aload_n (j := 0) (by decide +kernel) rfl))
   (cf_S_leaf (cf_S_get (T := cf_T0) (N := 5) (idx := 21) rfl (by decide) cf_la0 (cf_mem 65 (by decide +kernel)) (by decide +kernel))))
  (cf_S_node
   (cf_S_leaf (cf_S_iload_n (j := 1) (by decide +kernel) rfl))
   (cf_S_node
    (cf_S_leaf (cf_S_ishr (by decide +kernel)))
    (cf_S_leaf (cf_S_iconst (n := 1) (by decide +kernel) (by decide))))))
 (cf_S_node
  (cf_S_node
   (cf_S_leaf (cf_S_iand (by decide +kernel)))
   (cf_S_node
    (cf_S_leaf (cf_S_ifeq (off := 7) (by decide +kernel) (by decide)))
    (cf_S_leaf (cf_S_iconst (n := 1) (by decide +kernel) (by decide)))))
  (cf_S_node
   (cf_S_leaf (cf_S_goto (off := 4) (by decide +kernel) (by decide)))
   (cf_S_node
    (cf_S_leaf (cf_S_iconst (n := 0) (by decide +kernel) (by decide)))
    (cf_S_leaf (cf_S_iret (by decide +kernel))))))
theorem ct_H_isParent (l : Launch) : ∀ as w q, F_H_isParent as w = some q → cf_Ct l (⟨"CulpritFinder$History", "isParent", "(I)Z"⟩ : MethodName) prog_2_method_4_code 2 (some .boolean) 0 as w q := cf_F_ct (sd_H_isParent l) (by decide)
theorem sh_H_isParent : ∀ as w q, F_H_isParent as w = some q → ∃ (k : Nat) (as' : List cf_AV) (fs : List (Option Nat)), as = .inr k :: as' ∧ as'.length = 1 ∧ cf_shp k = .inr (0, fs) := cf_shV_of rfl
set_option maxRecDepth 100000 in
theorem sd_H_setCode (l : Launch) (pc : Nat) : cf_S l (cf_rm 0) prog_2_method_7_code 4 "CulpritFinder$History" pc (T_H_setCode pc) := cf_S_node
 (cf_S_node
  (cf_S_node
   (cf_S_leaf (cf_S_aload_n (j := 0) (by decide +kernel) rfl))
   (cf_S_leaf (cf_S_get (T := cf_T0) (N := 5) (idx := 18) rfl (by decide) cf_la0 (cf_mem 64 (by decide +kernel)) (by decide +kernel))))
  (cf_S_node
   (cf_S_leaf (cf_S_iload_n (j := 1) (by decide +kernel) rfl))
   (cf_S_node
    (cf_S_leaf (cf_S_bipush (n := 8) (by decide +kernel) (by decide +kernel)))
    (cf_S_leaf (cf_S_imul (by decide +kernel))))))
 (cf_S_node
  (cf_S_node
   (cf_S_leaf (cf_S_iload_n (j := 2) (by decide +kernel) rfl))
   (cf_S_leaf (cf_S_iadd (by decide +kernel))))
  (cf_S_node
   (cf_S_leaf (cf_S_iload_n (j := 3) (by decide +kernel) rfl))
   (cf_S_node
    (cf_S_leaf (cf_S_iast (by decide +kernel)))
    (cf_S_leaf (cf_S_vret (by decide +kernel))))))
theorem ct_H_setCode (l : Launch) : ∀ as w q, F_H_setCode as w = some q → cf_Ct l (⟨"CulpritFinder$History", "setCode", "(III)V"⟩ : MethodName) prog_2_method_7_code 4 none 0 as w q := cf_F_ct (sd_H_setCode l) (by decide)
theorem sh_H_setCode : ∀ as w q, F_H_setCode as w = some q → ∃ (k : Nat) (as' : List cf_AV) (fs : List (Option Nat)), as = .inr k :: as' ∧ as'.length = 3 ∧ cf_shp k = .inr (0, fs) := cf_shV_of rfl
set_option maxRecDepth 100000 in
theorem sd_C_write (l : Launch) (pc : Nat) : cf_S l (cf_rm 2) prog_1_method_3_code 5 "CulpritFinder" pc (T_C_write pc) := cf_S_node
 (cf_S_node
  (cf_S_node
   (cf_S_node
    (cf_S_node
     (cf_S_leaf (cf_S_aload_n (j := 0) (by decide +kernel) rfl))
     (cf_S_leaf (cf_S_get (T := cf_T4) (N := 3) (idx := 12) rfl (by decide) cf_la4 (cf_mem 181 (by decide +kernel)) (by decide +kernel))))
    (cf_S_node
     (cf_S_leaf (cf_S_iload_n (j := 1) (by decide +kernel) rfl))
     (cf_S_leaf (cf_S_iload_n (j := 2) (by decide +kernel) rfl))))
   (cf_S_node
    (cf_S_node
     (cf_S_leaf (cf_S_callV (d := 1) (idx := 40) (ct_H_hasLine l) sh_H_hasLine rfl (cf_mem 221 (by decide +kernel)) (cf_mem 218 (by decide +kernel)) (cf_mem 219 (by decide +kernel)) (cf_mem 220 (by decide +kernel)) (cf_mem 37 (by decide +kernel)) ⟨⟨by decide +kernel, by decide +kernel⟩, by decide +kernel⟩ ⟨by decide, by decide⟩ (by decide +kernel)))
     (cf_S_leaf (cf_S_ifeq (off := 35) (by decide +kernel) (by decide))))
    (cf_S_node
     (cf_S_leaf (cf_S_iload_n (j := 3) (by decide +kernel) rfl))
     (cf_S_node
      (cf_S_leaf (cf_S_iflt (off := 31) (by decide +kernel) (by decide)))
      (cf_S_leaf (cf_S_iload_n (j := 3) (by decide +kernel) rfl))))))
  (cf_S_node
   (cf_S_node
    (cf_S_node
     (cf_S_leaf (cf_S_sipush (n := 999) (by decide +kernel) (by decide +kernel)))
     (cf_S_leaf (cf_S_icgt (off := 24) (by decide +kernel) (by decide))))
    (cf_S_node
     (cf_S_leaf (cf_S_aload_n (j := 0) (by decide +kernel) rfl))
     (cf_S_leaf (cf_S_get (T := cf_T4) (N := 3) (idx := 12) rfl (by decide) cf_la4 (cf_mem 181 (by decide +kernel)) (by decide +kernel)))))
   (cf_S_node
    (cf_S_node
     (cf_S_leaf (cf_S_iload_n (j := 1) (by decide +kernel) rfl))
     (cf_S_leaf (cf_S_callV (d := 0) (idx := 43) (ct_H_isParent l) sh_H_isParent rfl (cf_mem 225 (by decide +kernel)) (cf_mem 222 (by decide +kernel)) (cf_mem 223 (by decide +kernel)) (cf_mem 224 (by decide +kernel)) (cf_mem 37 (by decide +kernel)) ⟨⟨by decide +kernel, by decide +kernel⟩, by decide +kernel⟩ ⟨by decide, by decide⟩ (by decide +kernel))))
    (cf_S_node
     (cf_S_leaf (cf_S_ifne (off := 13) (by decide +kernel) (by decide)))
     (cf_S_node
      (cf_S_leaf (cf_S_aload_n (j := 0) (by decide +kernel) rfl))
      (cf_S_leaf (cf_S_get (T := cf_T4) (N := 3) (idx := 28) rfl (by decide) cf_la4 (cf_mem 183 (by decide +kernel)) (by decide +kernel))))))))
 (cf_S_node
  (cf_S_node
   (cf_S_node
    (cf_S_node
     (cf_S_leaf (cf_S_getN (T := cf_T3) (N := 17) (host := "CulpritFinder") (idx := 47) rfl (by decide) cf_la3 (cf_mem 131 (by decide +kernel)) (by decide +kernel)))
     (cf_S_leaf (cf_S_ifeq (off := 7) (by decide +kernel) (by decide))))
    (cf_S_node
     (cf_S_leaf (cf_S_iconst (n := 1) (by decide +kernel) (by decide)))
     (cf_S_leaf (cf_S_goto (off := 4) (by decide +kernel) (by decide)))))
   (cf_S_node
    (cf_S_node
     (cf_S_leaf (cf_S_iconst (n := 0) (by decide +kernel) (by decide)))
     (cf_S_leaf (cf_S_istore (by decide +kernel) (by decide))))
    (cf_S_node
     (cf_S_leaf (cf_S_iload (by decide +kernel)))
     (cf_S_node
      (cf_S_leaf (cf_S_ifeq (off := 5) (by decide +kernel) (by decide)))
      (cf_S_leaf (cf_S_iconst (n := 0) (by decide +kernel) (by decide)))))))
  (cf_S_node
   (cf_S_node
    (cf_S_node
     (cf_S_leaf (cf_S_iret (by decide +kernel)))
     (cf_S_leaf (cf_S_aload_n (j := 0) (by decide +kernel) rfl)))
    (cf_S_node
     (cf_S_leaf (cf_S_get (T := cf_T4) (N := 3) (idx := 12) rfl (by decide) cf_la4 (cf_mem 181 (by decide +kernel)) (by decide +kernel)))
     (cf_S_leaf (cf_S_iload_n (j := 1) (by decide +kernel) rfl))))
   (cf_S_node
    (cf_S_node
     (cf_S_leaf (cf_S_iload_n (j := 2) (by decide +kernel) rfl))
     (cf_S_leaf (cf_S_iload_n (j := 3) (by decide +kernel) rfl)))
    (cf_S_node
     (cf_S_leaf (cf_S_callV (d := 0) (idx := 51) (ct_H_setCode l) sh_H_setCode rfl (cf_mem 229 (by decide +kernel)) (cf_mem 226 (by decide +kernel)) (cf_mem 227 (by decide +kernel)) (cf_mem 228 (by decide +kernel)) (cf_mem 37 (by decide +kernel)) ⟨⟨by decide +kernel, by decide +kernel⟩, by decide +kernel⟩ ⟨by decide, by decide⟩ (by decide +kernel)))
     (cf_S_node
      (cf_S_leaf (cf_S_iconst (n := 1) (by decide +kernel) (by decide)))
      (cf_S_leaf (cf_S_iret (by decide +kernel))))))))
theorem ct_C_write (l : Launch) : ∀ as w q, F_C_write as w = some q → cf_Ct l (⟨"CulpritFinder", "write", "(III)Z"⟩ : MethodName) prog_1_method_3_code 5 (some .boolean) 2 as w q := cf_F_ct (sd_C_write l) (by decide)
theorem sh_C_write : ∀ as w q, F_C_write as w = some q → ∃ (k : Nat) (as' : List cf_AV) (fs : List (Option Nat)), as = .inr k :: as' ∧ as'.length = 3 ∧ cf_shp k = .inr (4, fs) := cf_shV_of rfl
set_option maxRecDepth 100000 in
theorem sd_H_codeAt (l : Launch) (pc : Nat) : cf_S l (cf_rm 0) prog_2_method_6_code 3 "CulpritFinder$History" pc (T_H_codeAt pc) := cf_S_node
 (cf_S_node
  (cf_S_node
   (cf_S_leaf (cf_S_aload_n (j := 0) (by decide +kernel) rfl))
   (cf_S_leaf (cf_S_get (T := cf_T0) (N := 5) (idx := 18) rfl (by decide) cf_la0 (cf_mem 64 (by decide +kernel)) (by decide +kernel))))
  (cf_S_node
   (cf_S_leaf (cf_S_iload_n (j := 1) (by decide +kernel) rfl))
   (cf_S_leaf (cf_S_bipush (n := 8) (by decide +kernel) (by decide +kernel)))))
 (cf_S_node
  (cf_S_node
   (cf_S_leaf (cf_S_imul (by decide +kernel)))
   (cf_S_leaf (cf_S_iload_n (j := 2) (by decide +kernel) rfl)))
  (cf_S_node
   (cf_S_leaf (cf_S_iadd (by decide +kernel)))
   (cf_S_node
    (cf_S_leaf (cf_S_iald (by decide +kernel)))
    (cf_S_leaf (cf_S_iret (by decide +kernel))))))
theorem ct_H_codeAt (l : Launch) : ∀ as w q, F_H_codeAt as w = some q → cf_Ct l (⟨"CulpritFinder$History", "codeAt", "(II)I"⟩ : MethodName) prog_2_method_6_code 3 (some .int) 0 as w q := cf_F_ct (sd_H_codeAt l) (by decide)
theorem sh_H_codeAt : ∀ as w q, F_H_codeAt as w = some q → ∃ (k : Nat) (as' : List cf_AV) (fs : List (Option Nat)), as = .inr k :: as' ∧ as'.length = 2 ∧ cf_shp k = .inr (0, fs) := cf_shV_of rfl
set_option maxRecDepth 100000 in
theorem sd_C_line (l : Launch) (pc : Nat) : cf_S l (cf_rm 2) prog_1_method_4_code 3 "CulpritFinder" pc (T_C_line pc) := cf_S_node
 (cf_S_node
  (cf_S_node
   (cf_S_leaf (cf_S_aload_n (j := 0) (by decide +kernel) rfl))
   (cf_S_node
    (cf_S_leaf (cf_S_get (T := cf_T4) (N := 3) (idx := 12) rfl (by decide) cf_la4 (cf_mem 181 (by decide +kernel)) (by decide +kernel)))
    (cf_S_leaf (cf_S_iload_n (j := 1) (by decide +kernel) rfl))))
  (cf_S_node
   (cf_S_node
    (cf_S_leaf (cf_S_iload_n (j := 2) (by decide +kernel) rfl))
    (cf_S_leaf (cf_S_callV (d := 1) (idx := 40) (ct_H_hasLine l) sh_H_hasLine rfl (cf_mem 221 (by decide +kernel)) (cf_mem 218 (by decide +kernel)) (cf_mem 219 (by decide +kernel)) (cf_mem 220 (by decide +kernel)) (cf_mem 37 (by decide +kernel)) ⟨⟨by decide +kernel, by decide +kernel⟩, by decide +kernel⟩ ⟨by decide, by decide⟩ (by decide +kernel))))
   (cf_S_node
    (cf_S_leaf (cf_S_ifeq (off := 15) (by decide +kernel) (by decide)))
    (cf_S_leaf (cf_S_aload_n (j := 0) (by decide +kernel) rfl)))))
 (cf_S_node
  (cf_S_node
   (cf_S_leaf (cf_S_get (T := cf_T4) (N := 3) (idx := 12) rfl (by decide) cf_la4 (cf_mem 181 (by decide +kernel)) (by decide +kernel)))
   (cf_S_node
    (cf_S_leaf (cf_S_iload_n (j := 1) (by decide +kernel) rfl))
    (cf_S_leaf (cf_S_iload_n (j := 2) (by decide +kernel) rfl))))
  (cf_S_node
   (cf_S_node
    (cf_S_leaf (cf_S_callV (d := 0) (idx := 55) (ct_H_codeAt l) sh_H_codeAt rfl (cf_mem 237 (by decide +kernel)) (cf_mem 234 (by decide +kernel)) (cf_mem 235 (by decide +kernel)) (cf_mem 236 (by decide +kernel)) (cf_mem 37 (by decide +kernel)) ⟨⟨by decide +kernel, by decide +kernel⟩, by decide +kernel⟩ ⟨by decide, by decide⟩ (by decide +kernel)))
    (cf_S_leaf (cf_S_goto (off := 4) (by decide +kernel) (by decide))))
   (cf_S_node
    (cf_S_leaf (cf_S_iconst (n := -1) (by decide +kernel) (by decide)))
    (cf_S_leaf (cf_S_iret (by decide +kernel))))))
theorem ct_C_line (l : Launch) : ∀ as w q, F_C_line as w = some q → cf_Ct l (⟨"CulpritFinder", "line", "(II)I"⟩ : MethodName) prog_1_method_4_code 3 (some .int) 2 as w q := cf_F_ct (sd_C_line l) (by decide)
theorem sh_C_line : ∀ as w q, F_C_line as w = some q → ∃ (k : Nat) (as' : List cf_AV) (fs : List (Option Nat)), as = .inr k :: as' ∧ as'.length = 2 ∧ cf_shp k = .inr (4, fs) := cf_shV_of rfl
set_option maxRecDepth 100000 in
theorem sd_M_loadLines (l : Launch) (pc : Nat) : cf_S l (cf_rm 1) prog_3_method_3_code 5 "CulpritFinder$Machine" pc (T_M_loadLines pc) := cf_S_node
 (cf_S_node
  (cf_S_node
   (cf_S_node
    (cf_S_leaf (cf_S_iconst (n := 0) (by decide +kernel) (by decide)))
    (cf_S_leaf (cf_S_istore (by decide +kernel) (by decide))))
   (cf_S_node
    (cf_S_leaf (cf_S_iload (by decide +kernel)))
    (cf_S_node
     (cf_S_leaf (cf_S_bipush (n := 8) (by decide +kernel) (by decide +kernel)))
     (cf_S_leaf (cf_S_icge (off := 32) (by decide +kernel) (by decide))))))
  (cf_S_node
   (cf_S_node
    (cf_S_leaf (cf_S_iload_n (j := 3) (by decide +kernel) rfl))
    (cf_S_node
     (cf_S_leaf (cf_S_iload (by decide +kernel)))
     (cf_S_leaf (cf_S_ishr (by decide +kernel)))))
   (cf_S_node
    (cf_S_leaf (cf_S_iconst (n := 1) (by decide +kernel) (by decide)))
    (cf_S_node
     (cf_S_leaf (cf_S_iand (by decide +kernel)))
     (cf_S_leaf (cf_S_ifeq (off := 17) (by decide +kernel) (by decide)))))))
 (cf_S_node
  (cf_S_node
   (cf_S_node
    (cf_S_leaf (cf_S_aload_n (j := 0) (by decide +kernel) rfl))
    (cf_S_leaf (cf_S_get (T := cf_T1) (N := 4) (idx := 9) rfl (by decide) cf_la1 (cf_mem 85 (by decide +kernel)) (by decide +kernel))))
   (cf_S_node
    (cf_S_leaf (cf_S_iload (by decide +kernel)))
    (cf_S_node
     (cf_S_leaf (cf_S_aload_n (j := 1) (by decide +kernel) rfl))
     (cf_S_leaf (cf_S_iload_n (j := 2) (by decide +kernel) rfl)))))
  (cf_S_node
   (cf_S_node
    (cf_S_leaf (cf_S_iload (by decide +kernel)))
    (cf_S_node
     (cf_S_leaf (cf_S_callV (d := 0) (idx := 28) (ct_H_codeAt l) sh_H_codeAt rfl (cf_mem 237 (by decide +kernel)) (cf_mem 251 (by decide +kernel)) (cf_mem 235 (by decide +kernel)) (cf_mem 236 (by decide +kernel)) (cf_mem 37 (by decide +kernel)) ⟨⟨by decide +kernel, by decide +kernel⟩, by decide +kernel⟩ ⟨by decide, by decide⟩ (by decide +kernel)))
     (cf_S_leaf (cf_S_iast (by decide +kernel)))))
   (cf_S_node
    (cf_S_leaf (cf_S_iinc (n := 1) (by decide +kernel) (by decide) (by decide)))
    (cf_S_node
     (cf_S_leaf (cf_S_goto (off := -33) (by decide +kernel) (by decide)))
     (cf_S_leaf (cf_S_vret (by decide +kernel)))))))
theorem ct_M_loadLines (l : Launch) : ∀ as w q, F_M_loadLines as w = some q → cf_Ct l (⟨"CulpritFinder$Machine", "loadLines", "(LCulpritFinder$History;II)V"⟩ : MethodName) prog_3_method_3_code 5 none 1 as w q := cf_F_ct (sd_M_loadLines l) (by decide)
theorem sh_M_loadLines : ∀ as w q, F_M_loadLines as w = some q → ∃ (k : Nat) (as' : List cf_AV) (fs : List (Option Nat)), as = .inr k :: as' ∧ as'.length = 3 ∧ cf_shp k = .inr (1, fs) := cf_shV_of rfl
set_option maxRecDepth 100000 in
theorem sd_M_load (l : Launch) (pc : Nat) : cf_S l (cf_rm 2) prog_3_method_2_code 3 "CulpritFinder$Machine" pc (T_M_load pc) := cf_S_node
 (cf_S_node
  (cf_S_leaf (cf_S_aload_n (j := 0) (by decide +kernel) rfl))
  (cf_S_node
   (cf_S_leaf (cf_S_aload_n (j := 1) (by decide +kernel) rfl))
   (cf_S_leaf (cf_S_iload_n (j := 2) (by decide +kernel) rfl))))
 (cf_S_node
  (cf_S_leaf (cf_S_sipush (n := 255) (by decide +kernel) (by decide +kernel)))
  (cf_S_node
   (cf_S_leaf (cf_S_callV (d := 1) (idx := 24) (ct_M_loadLines l) sh_M_loadLines rfl (cf_mem 250 (by decide +kernel)) (cf_mem 247 (by decide +kernel)) (cf_mem 248 (by decide +kernel)) (cf_mem 249 (by decide +kernel)) (cf_mem 38 (by decide +kernel)) ⟨⟨by decide +kernel, by decide +kernel⟩, by decide +kernel⟩ ⟨by decide, by decide⟩ (by decide +kernel)))
   (cf_S_leaf (cf_S_vret (by decide +kernel)))))
theorem ct_M_load (l : Launch) : ∀ as w q, F_M_load as w = some q → cf_Ct l (⟨"CulpritFinder$Machine", "load", "(LCulpritFinder$History;I)V"⟩ : MethodName) prog_3_method_2_code 3 none 2 as w q := cf_F_ct (sd_M_load l) (by decide)
theorem sh_M_load : ∀ as w q, F_M_load as w = some q → ∃ (k : Nat) (as' : List cf_AV) (fs : List (Option Nat)), as = .inr k :: as' ∧ as'.length = 2 ∧ cf_shp k = .inr (1, fs) := cf_shV_of rfl
set_option maxRecDepth 100000 in
theorem sd_M_operation (l : Launch) (pc : Nat) : cf_S l (cf_rm 0) prog_3_method_10_code 1 "CulpritFinder$Machine" pc (T_M_operation pc) := cf_S_node
 (cf_S_node
  (cf_S_leaf (cf_S_iload_n (j := 0) (by decide +kernel) rfl))
  (cf_S_leaf (cf_S_bipush (n := 100) (by decide +kernel) (by decide +kernel))))
 (cf_S_node
  (cf_S_leaf (cf_S_idiv (by decide +kernel)))
  (cf_S_leaf (cf_S_iret (by decide +kernel))))
theorem ct_M_operation (l : Launch) : ∀ as w q, F_M_operation as w = some q → cf_Ct l (⟨"CulpritFinder$Machine", "operation", "(I)I"⟩ : MethodName) prog_3_method_10_code 1 (some .int) 0 as w q := cf_F_ct (sd_M_operation l) (by decide)
theorem sh_M_operation : ∀ as w q, F_M_operation as w = some q → as.length = 1 := cf_shS_of
set_option maxRecDepth 100000 in
theorem sd_M_hasOperations (l : Launch) (pc : Nat) : cf_S l (cf_rm 1) prog_3_method_5_code 2 "CulpritFinder$Machine" pc (T_M_hasOperations pc) := cf_S_node
 (cf_S_node
  (cf_S_node
   (cf_S_node
    (cf_S_leaf (cf_S_iconst (n := 0) (by decide +kernel) (by decide)))
    (cf_S_leaf (cf_S_istore_n (j := 1) (by decide +kernel) rfl (by decide))))
   (cf_S_node
    (cf_S_leaf (cf_S_iload_n (j := 1) (by decide +kernel) rfl))
    (cf_S_leaf (cf_S_bipush (n := 8) (by decide +kernel) (by decide +kernel)))))
  (cf_S_node
   (cf_S_node
    (cf_S_leaf (cf_S_icge (off := 25) (by decide +kernel) (by decide)))
    (cf_S_leaf (cf_S_aload_n (j := 0) (by decide +kernel) rfl)))
   (cf_S_node
    (cf_S_leaf (cf_S_get (T := cf_T1) (N := 4) (idx := 9) rfl (by decide) cf_la1 (cf_mem 85 (by decide +kernel)) (by decide +kernel)))
    (cf_S_node
     (cf_S_leaf (cf_S_iload_n (j := 1) (by decide +kernel) rfl))
     (cf_S_leaf (cf_S_iald (by decide +kernel)))))))
 (cf_S_node
  (cf_S_node
   (cf_S_node
    (cf_S_leaf (cf_S_callS (d := 0) (idx := 48) (ct_M_operation l) sh_M_operation (cf_mem 262 (by decide +kernel)) (cf_mem 260 (by decide +kernel)) (cf_mem 261 (by decide +kernel)) (cf_mem 38 (by decide +kernel)) ⟨⟨by decide +kernel, by decide +kernel⟩, by decide +kernel⟩ ⟨by decide, by decide⟩ (by decide +kernel)))
    (cf_S_leaf (cf_S_bipush (n := 9) (by decide +kernel) (by decide +kernel))))
   (cf_S_node
    (cf_S_leaf (cf_S_icne (off := 5) (by decide +kernel) (by decide)))
    (cf_S_leaf (cf_S_iconst (n := 0) (by decide +kernel) (by decide)))))
  (cf_S_node
   (cf_S_node
    (cf_S_leaf (cf_S_iret (by decide +kernel)))
    (cf_S_leaf (cf_S_iinc (n := 1) (by decide +kernel) (by decide) (by decide))))
   (cf_S_node
    (cf_S_leaf (cf_S_goto (off := -25) (by decide +kernel) (by decide)))
    (cf_S_node
     (cf_S_leaf (cf_S_iconst (n := 1) (by decide +kernel) (by decide)))
     (cf_S_leaf (cf_S_iret (by decide +kernel)))))))
theorem ct_M_hasOperations (l : Launch) : ∀ as w q, F_M_hasOperations as w = some q → cf_Ct l (⟨"CulpritFinder$Machine", "hasOperations", "()Z"⟩ : MethodName) prog_3_method_5_code 2 (some .boolean) 1 as w q := cf_F_ct (sd_M_hasOperations l) (by decide)
theorem sh_M_hasOperations : ∀ as w q, F_M_hasOperations as w = some q → ∃ (k : Nat) (as' : List cf_AV) (fs : List (Option Nat)), as = .inr k :: as' ∧ as'.length = 0 ∧ cf_shp k = .inr (1, fs) := cf_shV_of rfl
set_option maxRecDepth 100000 in
theorem sd_M_pairsBlocks (l : Launch) (pc : Nat) : cf_S l (cf_rm 1) prog_3_method_6_code 4 "CulpritFinder$Machine" pc (T_M_pairsBlocks pc) := cf_S_node
 (cf_S_node
  (cf_S_node
   (cf_S_node
    (cf_S_node
     (cf_S_leaf (cf_S_iconst (n := 0) (by decide +kernel) (by decide)))
     (cf_S_node
      (cf_S_leaf (cf_S_istore_n (j := 1) (by decide +kernel) rfl (by decide)))
      (cf_S_leaf (cf_S_iconst (n := 0) (by decide +kernel) (by decide)))))
    (cf_S_node
     (cf_S_node
      (cf_S_leaf (cf_S_istore_n (j := 2) (by decide +kernel) rfl (by decide)))
      (cf_S_leaf (cf_S_iload_n (j := 2) (by decide +kernel) rfl)))
     (cf_S_node
      (cf_S_leaf (cf_S_bipush (n := 8) (by decide +kernel) (by decide +kernel)))
      (cf_S_leaf (cf_S_icge (off := 81) (by decide +kernel) (by decide))))))
   (cf_S_node
    (cf_S_node
     (cf_S_leaf (cf_S_aload_n (j := 0) (by decide +kernel) rfl))
     (cf_S_node
      (cf_S_leaf (cf_S_get (T := cf_T1) (N := 4) (idx := 9) rfl (by decide) cf_la1 (cf_mem 85 (by decide +kernel)) (by decide +kernel)))
      (cf_S_leaf (cf_S_iload_n (j := 2) (by decide +kernel) rfl))))
    (cf_S_node
     (cf_S_node
      (cf_S_leaf (cf_S_iald (by decide +kernel)))
      (cf_S_leaf (cf_S_callS (d := 0) (idx := 48) (ct_M_operation l) sh_M_operation (cf_mem 262 (by decide +kernel)) (cf_mem 260 (by decide +kernel)) (cf_mem 261 (by decide +kernel)) (cf_mem 38 (by decide +kernel)) ⟨⟨by decide +kernel, by decide +kernel⟩, by decide +kernel⟩ ⟨by decide, by decide⟩ (by decide +kernel))))
     (cf_S_node
      (cf_S_leaf (cf_S_istore_n (j := 3) (by decide +kernel) rfl (by decide)))
      (cf_S_leaf (cf_S_iload_n (j := 3) (by decide +kernel) rfl))))))
  (cf_S_node
   (cf_S_node
    (cf_S_node
     (cf_S_leaf (cf_S_iconst (n := 4) (by decide +kernel) (by decide)))
     (cf_S_node
      (cf_S_leaf (cf_S_iceq (off := 8) (by decide +kernel) (by decide)))
      (cf_S_leaf (cf_S_iload_n (j := 3) (by decide +kernel) rfl))))
    (cf_S_node
     (cf_S_node
      (cf_S_leaf (cf_S_iconst (n := 5) (by decide +kernel) (by decide)))
      (cf_S_leaf (cf_S_icne (off := 16) (by decide +kernel) (by decide))))
     (cf_S_node
      (cf_S_leaf (cf_S_aload_n (j := 0) (by decide +kernel) rfl))
      (cf_S_leaf (cf_S_get (T := cf_T1) (N := 4) (idx := 18) rfl (by decide) cf_la1 (cf_mem 87 (by decide +kernel)) (by decide +kernel))))))
   (cf_S_node
    (cf_S_node
     (cf_S_node
      (cf_S_leaf (cf_S_iload_n (j := 1) (by decide +kernel) rfl))
      (cf_S_leaf (cf_S_iload_n (j := 2) (by decide +kernel) rfl)))
     (cf_S_node
      (cf_S_leaf (cf_S_iast (by decide +kernel)))
      (cf_S_leaf (cf_S_iinc (n := 1) (by decide +kernel) (by decide) (by decide)))))
    (cf_S_node
     (cf_S_node
      (cf_S_leaf (cf_S_goto (off := 42) (by decide +kernel) (by decide)))
      (cf_S_leaf (cf_S_iload_n (j := 3) (by decide +kernel) rfl)))
     (cf_S_node
      (cf_S_leaf (cf_S_bipush (n := 6) (by decide +kernel) (by decide +kernel)))
      (cf_S_leaf (cf_S_icne (off := 36) (by decide +kernel) (by decide))))))))
 (cf_S_node
  (cf_S_node
   (cf_S_node
    (cf_S_node
     (cf_S_leaf (cf_S_iload_n (j := 1) (by decide +kernel) rfl))
     (cf_S_node
      (cf_S_leaf (cf_S_ifne (off := 5) (by decide +kernel) (by decide)))
      (cf_S_leaf (cf_S_iconst (n := 0) (by decide +kernel) (by decide)))))
    (cf_S_node
     (cf_S_node
      (cf_S_leaf (cf_S_iret (by decide +kernel)))
      (cf_S_leaf (cf_S_iinc (n := -1) (by decide +kernel) (by decide) (by decide))))
     (cf_S_node
      (cf_S_leaf (cf_S_aload_n (j := 0) (by decide +kernel) rfl))
      (cf_S_leaf (cf_S_get (T := cf_T1) (N := 4) (idx := 15) rfl (by decide) cf_la1 (cf_mem 86 (by decide +kernel)) (by decide +kernel))))))
   (cf_S_node
    (cf_S_node
     (cf_S_leaf (cf_S_iload_n (j := 2) (by decide +kernel) rfl))
     (cf_S_node
      (cf_S_leaf (cf_S_aload_n (j := 0) (by decide +kernel) rfl))
      (cf_S_leaf (cf_S_get (T := cf_T1) (N := 4) (idx := 18) rfl (by decide) cf_la1 (cf_mem 87 (by decide +kernel)) (by decide +kernel)))))
    (cf_S_node
     (cf_S_node
      (cf_S_leaf (cf_S_iload_n (j := 1) (by decide +kernel) rfl))
      (cf_S_leaf (cf_S_iald (by decide +kernel))))
     (cf_S_node
      (cf_S_leaf (cf_S_iast (by decide +kernel)))
      (cf_S_leaf (cf_S_aload_n (j := 0) (by decide +kernel) rfl))))))
  (cf_S_node
   (cf_S_node
    (cf_S_node
     (cf_S_leaf (cf_S_get (T := cf_T1) (N := 4) (idx := 15) rfl (by decide) cf_la1 (cf_mem 86 (by decide +kernel)) (by decide +kernel)))
     (cf_S_node
      (cf_S_leaf (cf_S_aload_n (j := 0) (by decide +kernel) rfl))
      (cf_S_leaf (cf_S_get (T := cf_T1) (N := 4) (idx := 18) rfl (by decide) cf_la1 (cf_mem 87 (by decide +kernel)) (by decide +kernel)))))
    (cf_S_node
     (cf_S_node
      (cf_S_leaf (cf_S_iload_n (j := 1) (by decide +kernel) rfl))
      (cf_S_leaf (cf_S_iald (by decide +kernel))))
     (cf_S_node
      (cf_S_leaf (cf_S_iload_n (j := 2) (by decide +kernel) rfl))
      (cf_S_leaf (cf_S_iast (by decide +kernel))))))
   (cf_S_node
    (cf_S_node
     (cf_S_node
      (cf_S_leaf (cf_S_iinc (n := 1) (by decide +kernel) (by decide) (by decide)))
      (cf_S_leaf (cf_S_goto (off := -81) (by decide +kernel) (by decide))))
     (cf_S_node
      (cf_S_leaf (cf_S_iload_n (j := 1) (by decide +kernel) rfl))
      (cf_S_leaf (cf_S_ifne (off := 7) (by decide +kernel) (by decide)))))
    (cf_S_node
     (cf_S_node
      (cf_S_leaf (cf_S_iconst (n := 1) (by decide +kernel) (by decide)))
      (cf_S_leaf (cf_S_goto (off := 4) (by decide +kernel) (by decide))))
     (cf_S_node
      (cf_S_leaf (cf_S_iconst (n := 0) (by decide +kernel) (by decide)))
      (cf_S_leaf (cf_S_iret (by decide +kernel))))))))
theorem ct_M_pairsBlocks (l : Launch) : ∀ as w q, F_M_pairsBlocks as w = some q → cf_Ct l (⟨"CulpritFinder$Machine", "pairsBlocks", "()Z"⟩ : MethodName) prog_3_method_6_code 4 (some .boolean) 1 as w q := cf_F_ct (sd_M_pairsBlocks l) (by decide)
theorem sh_M_pairsBlocks : ∀ as w q, F_M_pairsBlocks as w = some q → ∃ (k : Nat) (as' : List cf_AV) (fs : List (Option Nat)), as = .inr k :: as' ∧ as'.length = 0 ∧ cf_shp k = .inr (1, fs) := cf_shV_of rfl
set_option maxRecDepth 100000 in
theorem sd_M_left (l : Launch) (pc : Nat) : cf_S l (cf_rm 0) prog_3_method_11_code 1 "CulpritFinder$Machine" pc (T_M_left pc) := cf_S_node
 (cf_S_node
  (cf_S_leaf (cf_S_iload_n (j := 0) (by decide +kernel) rfl))
  (cf_S_node
   (cf_S_leaf (cf_S_bipush (n := 10) (by decide +kernel) (by decide +kernel)))
   (cf_S_leaf (cf_S_idiv (by decide +kernel)))))
 (cf_S_node
  (cf_S_leaf (cf_S_bipush (n := 10) (by decide +kernel) (by decide +kernel)))
  (cf_S_node
   (cf_S_leaf (cf_S_irem (by decide +kernel)))
   (cf_S_leaf (cf_S_iret (by decide +kernel)))))
theorem ct_M_left (l : Launch) : ∀ as w q, F_M_left as w = some q → cf_Ct l (⟨"CulpritFinder$Machine", "left", "(I)I"⟩ : MethodName) prog_3_method_11_code 1 (some .int) 0 as w q := cf_F_ct (sd_M_left l) (by decide)
theorem sh_M_left : ∀ as w q, F_M_left as w = some q → as.length = 1 := cf_shS_of
set_option maxRecDepth 100000 in
theorem sd_M_right (l : Launch) (pc : Nat) : cf_S l (cf_rm 0) prog_3_method_12_code 1 "CulpritFinder$Machine" pc (T_M_right pc) := cf_S_node
 (cf_S_node
  (cf_S_leaf (cf_S_iload_n (j := 0) (by decide +kernel) rfl))
  (cf_S_leaf (cf_S_bipush (n := 10) (by decide +kernel) (by decide +kernel))))
 (cf_S_node
  (cf_S_leaf (cf_S_irem (by decide +kernel)))
  (cf_S_leaf (cf_S_iret (by decide +kernel))))
theorem ct_M_right (l : Launch) : ∀ as w q, F_M_right as w = some q → cf_Ct l (⟨"CulpritFinder$Machine", "right", "(I)I"⟩ : MethodName) prog_3_method_12_code 1 (some .int) 0 as w q := cf_F_ct (sd_M_right l) (by decide)
theorem sh_M_right : ∀ as w q, F_M_right as w = some q → as.length = 1 := cf_shS_of
set_option maxRecDepth 100000 in
theorem sd_M_readVariables (l : Launch) (pc : Nat) : cf_S l (cf_rm 1) prog_3_method_13_code 1 "CulpritFinder$Machine" pc (T_M_readVariables pc) := cf_S_node
 (cf_S_node
  (cf_S_node
   (cf_S_node
    (cf_S_leaf (cf_S_iload_n (j := 0) (by decide +kernel) rfl))
    (cf_S_node
     (cf_S_leaf (cf_S_callS (d := 0) (idx := 48) (ct_M_operation l) sh_M_operation (cf_mem 262 (by decide +kernel)) (cf_mem 260 (by decide +kernel)) (cf_mem 261 (by decide +kernel)) (cf_mem 38 (by decide +kernel)) ⟨⟨by decide +kernel, by decide +kernel⟩, by decide +kernel⟩ ⟨by decide, by decide⟩ (by decide +kernel)))
     (cf_S_leaf (cf_S_tsw (len := 44) (d := 72) (offs := #[44, 58, 58, 58, 72, 58, 65]) (by decide +kernel) (by decide) (by decide) (by decide)))))
   (cf_S_node
    (cf_S_leaf (cf_S_iconst (n := 1) (by decide +kernel) (by decide)))
    (cf_S_node
     (cf_S_leaf (cf_S_iload_n (j := 0) (by decide +kernel) rfl))
     (cf_S_leaf (cf_S_callS (d := 0) (idx := 54) (ct_M_left l) sh_M_left (cf_mem 276 (by decide +kernel)) (cf_mem 274 (by decide +kernel)) (cf_mem 275 (by decide +kernel)) (cf_mem 38 (by decide +kernel)) ⟨⟨by decide +kernel, by decide +kernel⟩, by decide +kernel⟩ ⟨by decide, by decide⟩ (by decide +kernel))))))
  (cf_S_node
   (cf_S_node
    (cf_S_leaf (cf_S_ishl (by decide +kernel)))
    (cf_S_node
     (cf_S_leaf (cf_S_iconst (n := 1) (by decide +kernel) (by decide)))
     (cf_S_leaf (cf_S_iload_n (j := 0) (by decide +kernel) rfl))))
   (cf_S_node
    (cf_S_leaf (cf_S_callS (d := 0) (idx := 66) (ct_M_right l) sh_M_right (cf_mem 279 (by decide +kernel)) (cf_mem 277 (by decide +kernel)) (cf_mem 278 (by decide +kernel)) (cf_mem 38 (by decide +kernel)) ⟨⟨by decide +kernel, by decide +kernel⟩, by decide +kernel⟩ ⟨by decide, by decide⟩ (by decide +kernel)))
    (cf_S_node
     (cf_S_leaf (cf_S_ishl (by decide +kernel)))
     (cf_S_leaf (cf_S_ior (by decide +kernel)))))))
 (cf_S_node
  (cf_S_node
   (cf_S_node
    (cf_S_leaf (cf_S_iret (by decide +kernel)))
    (cf_S_node
     (cf_S_leaf (cf_S_iconst (n := 1) (by decide +kernel) (by decide)))
     (cf_S_leaf (cf_S_iload_n (j := 0) (by decide +kernel) rfl))))
   (cf_S_node
    (cf_S_leaf (cf_S_callS (d := 0) (idx := 54) (ct_M_left l) sh_M_left (cf_mem 276 (by decide +kernel)) (cf_mem 274 (by decide +kernel)) (cf_mem 275 (by decide +kernel)) (cf_mem 38 (by decide +kernel)) ⟨⟨by decide +kernel, by decide +kernel⟩, by decide +kernel⟩ ⟨by decide, by decide⟩ (by decide +kernel)))
    (cf_S_node
     (cf_S_leaf (cf_S_ishl (by decide +kernel)))
     (cf_S_leaf (cf_S_iret (by decide +kernel))))))
  (cf_S_node
   (cf_S_node
    (cf_S_leaf (cf_S_iconst (n := 1) (by decide +kernel) (by decide)))
    (cf_S_node
     (cf_S_leaf (cf_S_iload_n (j := 0) (by decide +kernel) rfl))
     (cf_S_leaf (cf_S_callS (d := 0) (idx := 66) (ct_M_right l) sh_M_right (cf_mem 279 (by decide +kernel)) (cf_mem 277 (by decide +kernel)) (cf_mem 278 (by decide +kernel)) (cf_mem 38 (by decide +kernel)) ⟨⟨by decide +kernel, by decide +kernel⟩, by decide +kernel⟩ ⟨by decide, by decide⟩ (by decide +kernel)))))
   (cf_S_node
    (cf_S_node
     (cf_S_leaf (cf_S_ishl (by decide +kernel)))
     (cf_S_leaf (cf_S_iret (by decide +kernel))))
    (cf_S_node
     (cf_S_leaf (cf_S_iconst (n := 0) (by decide +kernel) (by decide)))
     (cf_S_leaf (cf_S_iret (by decide +kernel)))))))
theorem ct_M_readVariables (l : Launch) : ∀ as w q, F_M_readVariables as w = some q → cf_Ct l (⟨"CulpritFinder$Machine", "readVariables", "(I)I"⟩ : MethodName) prog_3_method_13_code 1 (some .int) 1 as w q := cf_F_ct (sd_M_readVariables l) (by decide)
theorem sh_M_readVariables : ∀ as w q, F_M_readVariables as w = some q → as.length = 1 := cf_shS_of
