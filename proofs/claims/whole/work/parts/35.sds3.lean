set_option maxRecDepth 100000 in
theorem sd_S_isSuspect (l : Launch) (pc : Nat) : cf_S l (cf_rm 1) prog_5_method_7_code 2 "CulpritFinder$Search" pc (T_S_isSuspect pc) := cf_S_node
 (cf_S_node
  (cf_S_node
   (cf_S_node
    (cf_S_leaf (cf_S_aload_n (j := 0) (by decide +kernel) rfl))
    (cf_S_leaf (cf_S_get (T := cf_T3) (N := 17) (idx := 63) rfl (by decide) cf_la3 (cf_mem 121 (by decide +kernel)) (by decide +kernel))))
   (cf_S_node
    (cf_S_leaf (cf_S_iload_n (j := 1) (by decide +kernel) rfl))
    (cf_S_leaf (cf_S_callV (d := 0) (idx := 97) (ct_H_has l) sh_H_has rfl (cf_mem 202 (by decide +kernel)) (cf_mem 343 (by decide +kernel)) (cf_mem 200 (by decide +kernel)) (cf_mem 201 (by decide +kernel)) (cf_mem 37 (by decide +kernel)) ⟨⟨by decide +kernel, by decide +kernel⟩, by decide +kernel⟩ ⟨by decide, by decide⟩ (by decide +kernel)))))
  (cf_S_node
   (cf_S_node
    (cf_S_leaf (cf_S_ifeq (off := 18) (by decide +kernel) (by decide)))
    (cf_S_leaf (cf_S_aload_n (j := 0) (by decide +kernel) rfl)))
   (cf_S_node
    (cf_S_leaf (cf_S_get (T := cf_T3) (N := 17) (idx := 47) rfl (by decide) cf_la3 (cf_mem 137 (by decide +kernel)) (by decide +kernel)))
    (cf_S_leaf (cf_S_iload_n (j := 1) (by decide +kernel) rfl)))))
 (cf_S_node
  (cf_S_node
   (cf_S_node
    (cf_S_leaf (cf_S_ishr (by decide +kernel)))
    (cf_S_leaf (cf_S_iconst (n := 1) (by decide +kernel) (by decide))))
   (cf_S_node
    (cf_S_leaf (cf_S_iand (by decide +kernel)))
    (cf_S_leaf (cf_S_ifeq (off := 7) (by decide +kernel) (by decide)))))
  (cf_S_node
   (cf_S_node
    (cf_S_leaf (cf_S_iconst (n := 1) (by decide +kernel) (by decide)))
    (cf_S_leaf (cf_S_goto (off := 4) (by decide +kernel) (by decide))))
   (cf_S_node
    (cf_S_leaf (cf_S_iconst (n := 0) (by decide +kernel) (by decide)))
    (cf_S_leaf (cf_S_iret (by decide +kernel))))))
theorem ct_S_isSuspect (l : Launch) : ∀ as w q, F_S_isSuspect as w = some q → cf_Ct l (⟨"CulpritFinder$Search", "isSuspect", "(I)Z"⟩ : MethodName) prog_5_method_7_code 2 (some .boolean) 1 as w q := cf_F_ct (sd_S_isSuspect l) (by decide)
theorem sh_S_isSuspect : ∀ as w q, F_S_isSuspect as w = some q → ∃ (k : Nat) (as' : List cf_AV) (fs : List (Option Nat)), as = .inr k :: as' ∧ as'.length = 1 ∧ cf_shp k = .inr (3, fs) := cf_shV_of rfl
set_option maxRecDepth 100000 in
theorem sd_S_weightOf (l : Launch) (pc : Nat) : cf_S l (cf_rm 1) prog_5_method_8_code 2 "CulpritFinder$Search" pc (T_S_weightOf pc) := cf_S_node
 (cf_S_node
  (cf_S_node
   (cf_S_leaf (cf_S_aload_n (j := 0) (by decide +kernel) rfl))
   (cf_S_leaf (cf_S_get (T := cf_T3) (N := 17) (idx := 63) rfl (by decide) cf_la3 (cf_mem 121 (by decide +kernel)) (by decide +kernel))))
  (cf_S_node
   (cf_S_leaf (cf_S_getN (T := cf_T0) (N := 5) (host := "CulpritFinder") (idx := 103) rfl (by decide) cf_la0 (cf_mem 63 (by decide +kernel)) (by decide +kernel)))
   (cf_S_node
    (cf_S_leaf (cf_S_iload_n (j := 1) (by decide +kernel) rfl))
    (cf_S_leaf (cf_S_iald (by decide +kernel))))))
 (cf_S_node
  (cf_S_node
   (cf_S_leaf (cf_S_aload_n (j := 0) (by decide +kernel) rfl))
   (cf_S_leaf (cf_S_get (T := cf_T3) (N := 17) (idx := 47) rfl (by decide) cf_la3 (cf_mem 137 (by decide +kernel)) (by decide +kernel))))
  (cf_S_node
   (cf_S_leaf (cf_S_iand (by decide +kernel)))
   (cf_S_node
    (cf_S_leaf (cf_S_callS (d := 0) (idx := 106) (ct_J_bitCount l) sh_J_bitCount (cf_mem 335 (by decide +kernel)) (cf_mem 333 (by decide +kernel)) (cf_mem 334 (by decide +kernel)) (cf_mem 44 (by decide +kernel)) ⟨⟨by decide +kernel, by decide +kernel⟩, by decide +kernel⟩ ⟨by decide, by decide⟩ (by decide +kernel)))
    (cf_S_leaf (cf_S_iret (by decide +kernel))))))
theorem ct_S_weightOf (l : Launch) : ∀ as w q, F_S_weightOf as w = some q → cf_Ct l (⟨"CulpritFinder$Search", "weightOf", "(I)I"⟩ : MethodName) prog_5_method_8_code 2 (some .int) 1 as w q := cf_F_ct (sd_S_weightOf l) (by decide)
theorem sh_S_weightOf : ∀ as w q, F_S_weightOf as w = some q → ∃ (k : Nat) (as' : List cf_AV) (fs : List (Option Nat)), as = .inr k :: as' ∧ as'.length = 1 ∧ cf_shp k = .inr (3, fs) := cf_shV_of rfl
set_option maxRecDepth 100000 in
theorem sd_S_bestHalver (l : Launch) (pc : Nat) : cf_S l (cf_rm 2) prog_5_method_14_code 7 "CulpritFinder$Search" pc (T_S_bestHalver pc) := cf_S_node
 (cf_S_node
  (cf_S_node
   (cf_S_node
    (cf_S_node
     (cf_S_leaf (cf_S_aload_n (j := 0) (by decide +kernel) rfl))
     (cf_S_leaf (cf_S_get (T := cf_T3) (N := 17) (idx := 47) rfl (by decide) cf_la3 (cf_mem 137 (by decide +kernel)) (by decide +kernel))))
    (cf_S_node
     (cf_S_leaf (cf_S_callS (d := 0) (idx := 106) (ct_J_bitCount l) sh_J_bitCount (cf_mem 335 (by decide +kernel)) (cf_mem 333 (by decide +kernel)) (cf_mem 334 (by decide +kernel)) (cf_mem 44 (by decide +kernel)) ⟨⟨by decide +kernel, by decide +kernel⟩, by decide +kernel⟩ ⟨by decide, by decide⟩ (by decide +kernel)))
     (cf_S_node
      (cf_S_leaf (cf_S_istore_n (j := 1) (by decide +kernel) rfl (by decide)))
      (cf_S_leaf (cf_S_iconst (n := -1) (by decide +kernel) (by decide))))))
   (cf_S_node
    (cf_S_node
     (cf_S_leaf (cf_S_istore_n (j := 2) (by decide +kernel) rfl (by decide)))
     (cf_S_leaf (cf_S_iconst (n := -1) (by decide +kernel) (by decide))))
    (cf_S_node
     (cf_S_leaf (cf_S_istore_n (j := 3) (by decide +kernel) rfl (by decide)))
     (cf_S_node
      (cf_S_leaf (cf_S_iconst (n := 0) (by decide +kernel) (by decide)))
      (cf_S_leaf (cf_S_istore (by decide +kernel) (by decide)))))))
  (cf_S_node
   (cf_S_node
    (cf_S_node
     (cf_S_leaf (cf_S_iload (by decide +kernel)))
     (cf_S_leaf (cf_S_bipush (n := 14) (by decide +kernel) (by decide +kernel))))
    (cf_S_node
     (cf_S_leaf (cf_S_icge (off := 59) (by decide +kernel) (by decide)))
     (cf_S_node
      (cf_S_leaf (cf_S_aload_n (j := 0) (by decide +kernel) rfl))
      (cf_S_leaf (cf_S_iload (by decide +kernel))))))
   (cf_S_node
    (cf_S_node
     (cf_S_leaf (cf_S_callV (d := 1) (idx := 141) (ct_S_isSuspect l) sh_S_isSuspect rfl (cf_mem 342 (by decide +kernel)) (cf_mem 339 (by decide +kernel)) (cf_mem 340 (by decide +kernel)) (cf_mem 341 (by decide +kernel)) (cf_mem 39 (by decide +kernel)) ⟨⟨by decide +kernel, by decide +kernel⟩, by decide +kernel⟩ ⟨by decide, by decide⟩ (by decide +kernel)))
     (cf_S_node
      (cf_S_leaf (cf_S_ifeq (off := 44) (by decide +kernel) (by decide)))
      (cf_S_leaf (cf_S_aload_n (j := 0) (by decide +kernel) rfl))))
    (cf_S_node
     (cf_S_leaf (cf_S_get (T := cf_T3) (N := 17) (idx := 22) rfl (by decide) cf_la3 (cf_mem 127 (by decide +kernel)) (by decide +kernel)))
     (cf_S_node
      (cf_S_leaf (cf_S_iload (by decide +kernel)))
      (cf_S_leaf (cf_S_iald (by decide +kernel))))))))
 (cf_S_node
  (cf_S_node
   (cf_S_node
    (cf_S_node
     (cf_S_leaf (cf_S_ifne (off := 34) (by decide +kernel) (by decide)))
     (cf_S_leaf (cf_S_aload_n (j := 0) (by decide +kernel) rfl)))
    (cf_S_node
     (cf_S_leaf (cf_S_iload (by decide +kernel)))
     (cf_S_node
      (cf_S_leaf (cf_S_callV (d := 1) (idx := 144) (ct_S_weightOf l) sh_S_weightOf rfl (cf_mem 347 (by decide +kernel)) (cf_mem 344 (by decide +kernel)) (cf_mem 345 (by decide +kernel)) (cf_mem 346 (by decide +kernel)) (cf_mem 39 (by decide +kernel)) ⟨⟨by decide +kernel, by decide +kernel⟩, by decide +kernel⟩ ⟨by decide, by decide⟩ (by decide +kernel)))
      (cf_S_leaf (cf_S_istore (by decide +kernel) (by decide))))))
   (cf_S_node
    (cf_S_node
     (cf_S_leaf (cf_S_iload (by decide +kernel)))
     (cf_S_node
      (cf_S_leaf (cf_S_iload_n (j := 1) (by decide +kernel) rfl))
      (cf_S_leaf (cf_S_iload (by decide +kernel)))))
    (cf_S_node
     (cf_S_leaf (cf_S_isub (by decide +kernel)))
     (cf_S_node
      (cf_S_leaf (cf_S_mmn (idx := 147) (cf_mem 348 (by decide +kernel)) (cf_mem 350 (by decide +kernel)) (cf_mem 349 (by decide +kernel)) (cf_mem 45 (by decide +kernel)) ⟨by decide, by decide⟩ (by decide +kernel)))
      (cf_S_leaf (cf_S_istore (by decide +kernel) (by decide)))))))
  (cf_S_node
   (cf_S_node
    (cf_S_node
     (cf_S_leaf (cf_S_iload (by decide +kernel)))
     (cf_S_leaf (cf_S_iload_n (j := 3) (by decide +kernel) rfl)))
    (cf_S_node
     (cf_S_leaf (cf_S_icle (off := 9) (by decide +kernel) (by decide)))
     (cf_S_node
      (cf_S_leaf (cf_S_iload (by decide +kernel)))
      (cf_S_leaf (cf_S_istore_n (j := 2) (by decide +kernel) rfl (by decide))))))
   (cf_S_node
    (cf_S_node
     (cf_S_leaf (cf_S_iload (by decide +kernel)))
     (cf_S_node
      (cf_S_leaf (cf_S_istore_n (j := 3) (by decide +kernel) rfl (by decide)))
      (cf_S_leaf (cf_S_iinc (n := 1) (by decide +kernel) (by decide) (by decide)))))
    (cf_S_node
     (cf_S_leaf (cf_S_goto (off := -60) (by decide +kernel) (by decide)))
     (cf_S_node
      (cf_S_leaf (cf_S_iload_n (j := 2) (by decide +kernel) rfl))
      (cf_S_leaf (cf_S_iret (by decide +kernel))))))))
theorem ct_S_bestHalver (l : Launch) : ∀ as w q, F_S_bestHalver as w = some q → cf_Ct l (⟨"CulpritFinder$Search", "bestHalver", "()I"⟩ : MethodName) prog_5_method_14_code 7 (some .int) 2 as w q := cf_F_ct (sd_S_bestHalver l) (by decide)
theorem sh_S_bestHalver : ∀ as w q, F_S_bestHalver as w = some q → ∃ (k : Nat) (as' : List cf_AV) (fs : List (Option Nat)), as = .inr k :: as' ∧ as'.length = 0 ∧ cf_shp k = .inr (3, fs) := cf_shV_of rfl
set_option maxRecDepth 100000 in
theorem sd_S_planHalving (l : Launch) (pc : Nat) : cf_S l (cf_rm 3) prog_5_method_13_code 1 "CulpritFinder$Search" pc (T_S_planHalving pc) := cf_S_node
 (cf_S_node
  (cf_S_node
   (cf_S_node
    (cf_S_node
     (cf_S_leaf (cf_S_aload_n (j := 0) (by decide +kernel) rfl))
     (cf_S_leaf (cf_S_aload_n (j := 0) (by decide +kernel) rfl)))
    (cf_S_node
     (cf_S_leaf (cf_S_get (T := cf_T3) (N := 17) (idx := 63) rfl (by decide) cf_la3 (cf_mem 121 (by decide +kernel)) (by decide +kernel)))
     (cf_S_node
      (cf_S_leaf (cf_S_getN (T := cf_T0) (N := 5) (host := "CulpritFinder") (idx := 103) rfl (by decide) cf_la0 (cf_mem 63 (by decide +kernel)) (by decide +kernel)))
      (cf_S_leaf (cf_S_aload_n (j := 0) (by decide +kernel) rfl)))))
   (cf_S_node
    (cf_S_node
     (cf_S_leaf (cf_S_get (T := cf_T3) (N := 17) (idx := 41) rfl (by decide) cf_la3 (cf_mem 135 (by decide +kernel)) (by decide +kernel)))
     (cf_S_leaf (cf_S_iald (by decide +kernel))))
    (cf_S_node
     (cf_S_leaf (cf_S_aload_n (j := 0) (by decide +kernel) rfl))
     (cf_S_node
      (cf_S_leaf (cf_S_get (T := cf_T3) (N := 17) (idx := 44) rfl (by decide) cf_la3 (cf_mem 136 (by decide +kernel)) (by decide +kernel)))
      (cf_S_leaf (cf_S_iconst (n := -1) (by decide +kernel) (by decide)))))))
  (cf_S_node
   (cf_S_node
    (cf_S_node
     (cf_S_leaf (cf_S_ixor (by decide +kernel)))
     (cf_S_leaf (cf_S_iand (by decide +kernel))))
    (cf_S_node
     (cf_S_leaf (cf_S_put (T := cf_T3) (N := 17) (idx := 47) (tT := cf_y3) rfl (by decide) cf_la3 cf_ty3 cf_nm3 rfl (by decide +kernel) (cf_mem 137 (by decide +kernel)) (by decide +kernel)))
     (cf_S_node
      (cf_S_leaf (cf_S_aload_n (j := 0) (by decide +kernel) rfl))
      (cf_S_leaf (cf_S_aload_n (j := 0) (by decide +kernel) rfl)))))
   (cf_S_node
    (cf_S_node
     (cf_S_leaf (cf_S_callV (d := 2) (idx := 138) (ct_S_bestHalver l) sh_S_bestHalver rfl (cf_mem 332 (by decide +kernel)) (cf_mem 329 (by decide +kernel)) (cf_mem 331 (by decide +kernel)) (cf_mem 9 (by decide +kernel)) (cf_mem 39 (by decide +kernel)) ⟨⟨by decide +kernel, by decide +kernel⟩, by decide +kernel⟩ ⟨by decide, by decide⟩ (by decide +kernel)))
     (cf_S_leaf (cf_S_put (T := cf_T3) (N := 17) (idx := 53) (tT := cf_y3) rfl (by decide) cf_la3 cf_ty3 cf_nm3 rfl (by decide +kernel) (cf_mem 141 (by decide +kernel)) (by decide +kernel))))
    (cf_S_node
     (cf_S_leaf (cf_S_aload_n (j := 0) (by decide +kernel) rfl))
     (cf_S_node
      (cf_S_leaf (cf_S_get (T := cf_T3) (N := 17) (idx := 53) rfl (by decide) cf_la3 (cf_mem 141 (by decide +kernel)) (by decide +kernel)))
      (cf_S_leaf (cf_S_iconst (n := -1) (by decide +kernel) (by decide))))))))
 (cf_S_node
  (cf_S_node
   (cf_S_node
    (cf_S_node
     (cf_S_leaf (cf_S_iceq (off := 4) (by decide +kernel) (by decide)))
     (cf_S_leaf (cf_S_vret (by decide +kernel))))
    (cf_S_node
     (cf_S_leaf (cf_S_aload_n (j := 0) (by decide +kernel) rfl))
     (cf_S_node
      (cf_S_leaf (cf_S_get (T := cf_T3) (N := 17) (idx := 47) rfl (by decide) cf_la3 (cf_mem 137 (by decide +kernel)) (by decide +kernel)))
      (cf_S_leaf (cf_S_iconst (n := 1) (by decide +kernel) (by decide))))))
   (cf_S_node
    (cf_S_node
     (cf_S_leaf (cf_S_aload_n (j := 0) (by decide +kernel) rfl))
     (cf_S_leaf (cf_S_get (T := cf_T3) (N := 17) (idx := 41) rfl (by decide) cf_la3 (cf_mem 135 (by decide +kernel)) (by decide +kernel))))
    (cf_S_node
     (cf_S_leaf (cf_S_ishl (by decide +kernel)))
     (cf_S_node
      (cf_S_leaf (cf_S_icne (off := 19) (by decide +kernel) (by decide)))
      (cf_S_leaf (cf_S_aload_n (j := 0) (by decide +kernel) rfl))))))
  (cf_S_node
   (cf_S_node
    (cf_S_node
     (cf_S_leaf (cf_S_aload_n (j := 0) (by decide +kernel) rfl))
     (cf_S_leaf (cf_S_get (T := cf_T3) (N := 17) (idx := 41) rfl (by decide) cf_la3 (cf_mem 135 (by decide +kernel)) (by decide +kernel))))
    (cf_S_node
     (cf_S_leaf (cf_S_put (T := cf_T3) (N := 17) (idx := 50) (tT := cf_y3) rfl (by decide) cf_la3 cf_ty3 cf_nm3 rfl (by decide +kernel) (cf_mem 139 (by decide +kernel)) (by decide +kernel)))
     (cf_S_node
      (cf_S_leaf (cf_S_aload_n (j := 0) (by decide +kernel) rfl))
      (cf_S_leaf (cf_S_iconst (n := 3) (by decide +kernel) (by decide))))))
   (cf_S_node
    (cf_S_node
     (cf_S_leaf (cf_S_put (T := cf_T3) (N := 17) (idx := 29) (tT := cf_y3) rfl (by decide) cf_la3 cf_ty3 cf_nm3 rfl (by decide +kernel) (cf_mem 130 (by decide +kernel)) (by decide +kernel)))
     (cf_S_node
      (cf_S_leaf (cf_S_goto (off := 8) (by decide +kernel) (by decide)))
      (cf_S_leaf (cf_S_aload_n (j := 0) (by decide +kernel) rfl))))
    (cf_S_node
     (cf_S_leaf (cf_S_iconst (n := 5) (by decide +kernel) (by decide)))
     (cf_S_node
      (cf_S_leaf (cf_S_put (T := cf_T3) (N := 17) (idx := 29) (tT := cf_y3) rfl (by decide) cf_la3 cf_ty3 cf_nm3 rfl (by decide +kernel) (cf_mem 130 (by decide +kernel)) (by decide +kernel)))
      (cf_S_leaf (cf_S_vret (by decide +kernel))))))))
theorem ct_S_planHalving (l : Launch) : ∀ as w q, F_S_planHalving as w = some q → cf_Ct l (⟨"CulpritFinder$Search", "planHalving", "()V"⟩ : MethodName) prog_5_method_13_code 1 none 3 as w q := cf_F_ct (sd_S_planHalving l) (by decide)
theorem sh_S_planHalving : ∀ as w q, F_S_planHalving as w = some q → ∃ (k : Nat) (as' : List cf_AV) (fs : List (Option Nat)), as = .inr k :: as' ∧ as'.length = 0 ∧ cf_shp k = .inr (3, fs) := cf_shV_of rfl
set_option maxRecDepth 100000 in
theorem sd_H_changedLines (l : Launch) (pc : Nat) : cf_S l (cf_rm 1) prog_2_method_11_code 5 "CulpritFinder$History" pc (T_H_changedLines pc) := cf_S_node
 (cf_S_node
  (cf_S_node
   (cf_S_node
    (cf_S_leaf (cf_S_iconst (n := 0) (by decide +kernel) (by decide)))
    (cf_S_node
     (cf_S_leaf (cf_S_istore_n (j := 3) (by decide +kernel) rfl (by decide)))
     (cf_S_leaf (cf_S_iconst (n := 0) (by decide +kernel) (by decide)))))
   (cf_S_node
    (cf_S_leaf (cf_S_istore (by decide +kernel) (by decide)))
    (cf_S_node
     (cf_S_leaf (cf_S_iload (by decide +kernel)))
     (cf_S_leaf (cf_S_bipush (n := 8) (by decide +kernel) (by decide +kernel))))))
  (cf_S_node
   (cf_S_node
    (cf_S_leaf (cf_S_icge (off := 33) (by decide +kernel) (by decide)))
    (cf_S_node
     (cf_S_leaf (cf_S_aload_n (j := 0) (by decide +kernel) rfl))
     (cf_S_leaf (cf_S_iload_n (j := 1) (by decide +kernel) rfl))))
   (cf_S_node
    (cf_S_node
     (cf_S_leaf (cf_S_iload (by decide +kernel)))
     (cf_S_leaf (cf_S_callV (d := 0) (idx := 42) (ct_H_codeAt l) sh_H_codeAt rfl (cf_mem 237 (by decide +kernel)) (cf_mem 359 (by decide +kernel)) (cf_mem 235 (by decide +kernel)) (cf_mem 236 (by decide +kernel)) (cf_mem 37 (by decide +kernel)) ⟨⟨by decide +kernel, by decide +kernel⟩, by decide +kernel⟩ ⟨by decide, by decide⟩ (by decide +kernel))))
    (cf_S_node
     (cf_S_leaf (cf_S_aload_n (j := 0) (by decide +kernel) rfl))
     (cf_S_leaf (cf_S_iload_n (j := 2) (by decide +kernel) rfl))))))
 (cf_S_node
  (cf_S_node
   (cf_S_node
    (cf_S_leaf (cf_S_iload (by decide +kernel)))
    (cf_S_node
     (cf_S_leaf (cf_S_callV (d := 0) (idx := 42) (ct_H_codeAt l) sh_H_codeAt rfl (cf_mem 237 (by decide +kernel)) (cf_mem 359 (by decide +kernel)) (cf_mem 235 (by decide +kernel)) (cf_mem 236 (by decide +kernel)) (cf_mem 37 (by decide +kernel)) ⟨⟨by decide +kernel, by decide +kernel⟩, by decide +kernel⟩ ⟨by decide, by decide⟩ (by decide +kernel)))
     (cf_S_leaf (cf_S_iceq (off := 10) (by decide +kernel) (by decide)))))
   (cf_S_node
    (cf_S_leaf (cf_S_iload_n (j := 3) (by decide +kernel) rfl))
    (cf_S_node
     (cf_S_leaf (cf_S_iconst (n := 1) (by decide +kernel) (by decide)))
     (cf_S_leaf (cf_S_iload (by decide +kernel))))))
  (cf_S_node
   (cf_S_node
    (cf_S_leaf (cf_S_ishl (by decide +kernel)))
    (cf_S_node
     (cf_S_leaf (cf_S_ior (by decide +kernel)))
     (cf_S_leaf (cf_S_istore_n (j := 3) (by decide +kernel) rfl (by decide)))))
   (cf_S_node
    (cf_S_node
     (cf_S_leaf (cf_S_iinc (n := 1) (by decide +kernel) (by decide) (by decide)))
     (cf_S_leaf (cf_S_goto (off := -34) (by decide +kernel) (by decide))))
    (cf_S_node
     (cf_S_leaf (cf_S_iload_n (j := 3) (by decide +kernel) rfl))
     (cf_S_leaf (cf_S_iret (by decide +kernel)))))))
theorem ct_H_changedLines (l : Launch) : ∀ as w q, F_H_changedLines as w = some q → cf_Ct l (⟨"CulpritFinder$History", "changedLines", "(II)I"⟩ : MethodName) prog_2_method_11_code 5 (some .int) 1 as w q := cf_F_ct (sd_H_changedLines l) (by decide)
theorem sh_H_changedLines : ∀ as w q, F_H_changedLines as w = some q → ∃ (k : Nat) (as' : List cf_AV) (fs : List (Option Nat)), as = .inr k :: as' ∧ as'.length = 2 ∧ cf_shp k = .inr (0, fs) := cf_shV_of rfl
set_option maxRecDepth 100000 in
theorem sd_R_placesOfSet (l : Launch) (pc : Nat) : cf_S l (cf_rm 0) prog_4_method_6_code 6 "CulpritFinder$Reduction" pc (T_R_placesOfSet pc) := cf_S_node
 (cf_S_node
  (cf_S_node
   (cf_S_node
    (cf_S_node
     (cf_S_leaf (cf_S_iconst (n := 0) (by decide +kernel) (by decide)))
     (cf_S_leaf (cf_S_istore_n (j := 3) (by decide +kernel) rfl (by decide))))
    (cf_S_node
     (cf_S_leaf (cf_S_iconst (n := 0) (by decide +kernel) (by decide)))
     (cf_S_leaf (cf_S_istore (by decide +kernel) (by decide)))))
   (cf_S_node
    (cf_S_node
     (cf_S_leaf (cf_S_iconst (n := 0) (by decide +kernel) (by decide)))
     (cf_S_leaf (cf_S_istore (by decide +kernel) (by decide))))
    (cf_S_node
     (cf_S_leaf (cf_S_iload (by decide +kernel)))
     (cf_S_leaf (cf_S_bipush (n := 8) (by decide +kernel) (by decide +kernel))))))
  (cf_S_node
   (cf_S_node
    (cf_S_node
     (cf_S_leaf (cf_S_icge (off := 43) (by decide +kernel) (by decide)))
     (cf_S_leaf (cf_S_aload_n (j := 0) (by decide +kernel) rfl)))
    (cf_S_node
     (cf_S_leaf (cf_S_get (T := cf_T2) (N := 3) (idx := 15) rfl (by decide) cf_la2 (cf_mem 111 (by decide +kernel)) (by decide +kernel)))
     (cf_S_leaf (cf_S_iload (by decide +kernel)))))
   (cf_S_node
    (cf_S_node
     (cf_S_leaf (cf_S_ishr (by decide +kernel)))
     (cf_S_leaf (cf_S_iconst (n := 1) (by decide +kernel) (by decide))))
    (cf_S_node
     (cf_S_leaf (cf_S_iand (by decide +kernel)))
     (cf_S_leaf (cf_S_ifeq (off := 25) (by decide +kernel) (by decide)))))))
 (cf_S_node
  (cf_S_node
   (cf_S_node
    (cf_S_node
     (cf_S_leaf (cf_S_iload_n (j := 3) (by decide +kernel) rfl))
     (cf_S_leaf (cf_S_iload_n (j := 1) (by decide +kernel) rfl)))
    (cf_S_node
     (cf_S_leaf (cf_S_iclt (off := 17) (by decide +kernel) (by decide)))
     (cf_S_leaf (cf_S_iload_n (j := 3) (by decide +kernel) rfl))))
   (cf_S_node
    (cf_S_node
     (cf_S_leaf (cf_S_iload_n (j := 2) (by decide +kernel) rfl))
     (cf_S_leaf (cf_S_icge (off := 12) (by decide +kernel) (by decide))))
    (cf_S_node
     (cf_S_leaf (cf_S_iload (by decide +kernel)))
     (cf_S_leaf (cf_S_iconst (n := 1) (by decide +kernel) (by decide))))))
  (cf_S_node
   (cf_S_node
    (cf_S_node
     (cf_S_leaf (cf_S_iload (by decide +kernel)))
     (cf_S_leaf (cf_S_ishl (by decide +kernel))))
    (cf_S_node
     (cf_S_leaf (cf_S_ior (by decide +kernel)))
     (cf_S_leaf (cf_S_istore (by decide +kernel) (by decide)))))
   (cf_S_node
    (cf_S_node
     (cf_S_leaf (cf_S_iinc (n := 1) (by decide +kernel) (by decide) (by decide)))
     (cf_S_leaf (cf_S_iinc (n := 1) (by decide +kernel) (by decide) (by decide))))
    (cf_S_node
     (cf_S_leaf (cf_S_goto (off := -44) (by decide +kernel) (by decide)))
     (cf_S_node
      (cf_S_leaf (cf_S_iload (by decide +kernel)))
      (cf_S_leaf (cf_S_iret (by decide +kernel))))))))
theorem ct_R_placesOfSet (l : Launch) : ∀ as w q, F_R_placesOfSet as w = some q → cf_Ct l (⟨"CulpritFinder$Reduction", "placesOfSet", "(II)I"⟩ : MethodName) prog_4_method_6_code 6 (some .int) 0 as w q := cf_F_ct (sd_R_placesOfSet l) (by decide)
theorem sh_R_placesOfSet : ∀ as w q, F_R_placesOfSet as w = some q → ∃ (k : Nat) (as' : List cf_AV) (fs : List (Option Nat)), as = .inr k :: as' ∧ as'.length = 2 ∧ cf_shp k = .inr (2, fs) := cf_shV_of rfl
set_option maxRecDepth 100000 in
theorem sd_R_firstNotHarmless (l : Launch) (pc : Nat) : cf_S l (cf_rm 1) prog_4_method_5_code 6 "CulpritFinder$Reduction" pc (T_R_firstNotHarmless pc) := cf_S_node
 (cf_S_node
  (cf_S_node
   (cf_S_node
    (cf_S_node
     (cf_S_leaf (cf_S_iconst (n := 0) (by decide +kernel) (by decide)))
     (cf_S_node
      (cf_S_leaf (cf_S_istore_n (j := 3) (by decide +kernel) rfl (by decide)))
      (cf_S_leaf (cf_S_iload_n (j := 3) (by decide +kernel) rfl))))
    (cf_S_node
     (cf_S_leaf (cf_S_aload_n (j := 0) (by decide +kernel) rfl))
     (cf_S_node
      (cf_S_leaf (cf_S_get (T := cf_T2) (N := 3) (idx := 19) rfl (by decide) cf_la2 (cf_mem 113 (by decide +kernel)) (by decide +kernel)))
      (cf_S_leaf (cf_S_icge (off := 77) (by decide +kernel) (by decide))))))
   (cf_S_node
    (cf_S_node
     (cf_S_leaf (cf_S_aload_n (j := 0) (by decide +kernel) rfl))
     (cf_S_node
      (cf_S_leaf (cf_S_iload_n (j := 3) (by decide +kernel) rfl))
      (cf_S_leaf (cf_S_iload_n (j := 2) (by decide +kernel) rfl))))
    (cf_S_node
     (cf_S_leaf (cf_S_imul (by decide +kernel)))
     (cf_S_node
      (cf_S_leaf (cf_S_aload_n (j := 0) (by decide +kernel) rfl))
      (cf_S_leaf (cf_S_get (T := cf_T2) (N := 3) (idx := 19) rfl (by decide) cf_la2 (cf_mem 113 (by decide +kernel)) (by decide +kernel)))))))
  (cf_S_node
   (cf_S_node
    (cf_S_node
     (cf_S_leaf (cf_S_idiv (by decide +kernel)))
     (cf_S_node
      (cf_S_leaf (cf_S_iload_n (j := 3) (by decide +kernel) rfl))
      (cf_S_leaf (cf_S_iconst (n := 1) (by decide +kernel) (by decide)))))
    (cf_S_node
     (cf_S_leaf (cf_S_iadd (by decide +kernel)))
     (cf_S_node
      (cf_S_leaf (cf_S_iload_n (j := 2) (by decide +kernel) rfl))
      (cf_S_leaf (cf_S_imul (by decide +kernel))))))
   (cf_S_node
    (cf_S_node
     (cf_S_leaf (cf_S_aload_n (j := 0) (by decide +kernel) rfl))
     (cf_S_node
      (cf_S_leaf (cf_S_get (T := cf_T2) (N := 3) (idx := 19) rfl (by decide) cf_la2 (cf_mem 113 (by decide +kernel)) (by decide +kernel)))
      (cf_S_leaf (cf_S_idiv (by decide +kernel)))))
    (cf_S_node
     (cf_S_node
      (cf_S_leaf (cf_S_callV (d := 0) (idx := 47) (ct_R_placesOfSet l) sh_R_placesOfSet rfl (cf_mem 372 (by decide +kernel)) (cf_mem 369 (by decide +kernel)) (cf_mem 371 (by decide +kernel)) (cf_mem 12 (by decide +kernel)) (cf_mem 40 (by decide +kernel)) ⟨⟨by decide +kernel, by decide +kernel⟩, by decide +kernel⟩ ⟨by decide, by decide⟩ (by decide +kernel)))
      (cf_S_leaf (cf_S_istore (by decide +kernel) (by decide))))
     (cf_S_node
      (cf_S_leaf (cf_S_iload_n (j := 1) (by decide +kernel) rfl))
      (cf_S_leaf (cf_S_ifeq (off := 15) (by decide +kernel) (by decide))))))))
 (cf_S_node
  (cf_S_node
   (cf_S_node
    (cf_S_node
     (cf_S_leaf (cf_S_aload_n (j := 0) (by decide +kernel) rfl))
     (cf_S_node
      (cf_S_leaf (cf_S_get (T := cf_T2) (N := 3) (idx := 15) rfl (by decide) cf_la2 (cf_mem 111 (by decide +kernel)) (by decide +kernel)))
      (cf_S_leaf (cf_S_iload (by decide +kernel)))))
    (cf_S_node
     (cf_S_leaf (cf_S_iconst (n := -1) (by decide +kernel) (by decide)))
     (cf_S_node
      (cf_S_leaf (cf_S_ixor (by decide +kernel)))
      (cf_S_leaf (cf_S_iand (by decide +kernel))))))
   (cf_S_node
    (cf_S_node
     (cf_S_leaf (cf_S_goto (off := 5) (by decide +kernel) (by decide)))
     (cf_S_node
      (cf_S_leaf (cf_S_iload (by decide +kernel)))
      (cf_S_leaf (cf_S_istore (by decide +kernel) (by decide)))))
    (cf_S_node
     (cf_S_node
      (cf_S_leaf (cf_S_aload_n (j := 0) (by decide +kernel) rfl))
      (cf_S_leaf (cf_S_get (T := cf_T2) (N := 3) (idx := 9) rfl (by decide) cf_la2 (cf_mem 110 (by decide +kernel)) (by decide +kernel))))
     (cf_S_node
      (cf_S_leaf (cf_S_iload (by decide +kernel)))
      (cf_S_leaf (cf_S_iald (by decide +kernel)))))))
  (cf_S_node
   (cf_S_node
    (cf_S_node
     (cf_S_leaf (cf_S_ifeq (off := 14) (by decide +kernel) (by decide)))
     (cf_S_node
      (cf_S_leaf (cf_S_aload_n (j := 0) (by decide +kernel) rfl))
      (cf_S_leaf (cf_S_get (T := cf_T2) (N := 3) (idx := 9) rfl (by decide) cf_la2 (cf_mem 110 (by decide +kernel)) (by decide +kernel)))))
    (cf_S_node
     (cf_S_leaf (cf_S_iload (by decide +kernel)))
     (cf_S_node
      (cf_S_leaf (cf_S_iald (by decide +kernel)))
      (cf_S_leaf (cf_S_iconst (n := 2) (by decide +kernel) (by decide))))))
   (cf_S_node
    (cf_S_node
     (cf_S_leaf (cf_S_icne (off := 6) (by decide +kernel) (by decide)))
     (cf_S_node
      (cf_S_leaf (cf_S_iload (by decide +kernel)))
      (cf_S_leaf (cf_S_iret (by decide +kernel)))))
    (cf_S_node
     (cf_S_node
      (cf_S_leaf (cf_S_iinc (n := 1) (by decide +kernel) (by decide) (by decide)))
      (cf_S_leaf (cf_S_goto (off := -79) (by decide +kernel) (by decide))))
     (cf_S_node
      (cf_S_leaf (cf_S_iconst (n := 0) (by decide +kernel) (by decide)))
      (cf_S_leaf (cf_S_iret (by decide +kernel))))))))
theorem ct_R_firstNotHarmless (l : Launch) : ∀ as w q, F_R_firstNotHarmless as w = some q → cf_Ct l (⟨"CulpritFinder$Reduction", "firstNotHarmless", "(ZI)I"⟩ : MethodName) prog_4_method_5_code 6 (some .int) 1 as w q := cf_F_ct (sd_R_firstNotHarmless l) (by decide)
theorem sh_R_firstNotHarmless : ∀ as w q, F_R_firstNotHarmless as w = some q → ∃ (k : Nat) (as' : List cf_AV) (fs : List (Option Nat)), as = .inr k :: as' ∧ as'.length = 2 ∧ cf_shp k = .inr (2, fs) := cf_shV_of rfl
set_option maxRecDepth 100000 in
theorem sd_R_follow (l : Launch) (pc : Nat) : cf_S l (cf_rm 2) prog_4_method_4_code 6 "CulpritFinder$Reduction" pc (T_R_follow pc) := cf_S_node
 (cf_S_node
  (cf_S_node
   (cf_S_node
    (cf_S_node
     (cf_S_node
      (cf_S_leaf (cf_S_aload_n (j := 0) (by decide +kernel) rfl))
      (cf_S_leaf (cf_S_iload_n (j := 1) (by decide +kernel) rfl)))
     (cf_S_node
      (cf_S_leaf (cf_S_put (T := cf_T2) (N := 3) (idx := 15) (tT := cf_y2) rfl (by decide) cf_la2 cf_ty2 cf_nm2 rfl (by decide +kernel) (cf_mem 111 (by decide +kernel)) (by decide +kernel)))
      (cf_S_leaf (cf_S_aload_n (j := 0) (by decide +kernel) rfl))))
    (cf_S_node
     (cf_S_node
      (cf_S_leaf (cf_S_iconst (n := 2) (by decide +kernel) (by decide)))
      (cf_S_leaf (cf_S_put (T := cf_T2) (N := 3) (idx := 19) (tT := cf_y2) rfl (by decide) cf_la2 cf_ty2 cf_nm2 rfl (by decide +kernel) (cf_mem 113 (by decide +kernel)) (by decide +kernel))))
     (cf_S_node
      (cf_S_leaf (cf_S_iconst (n := 0) (by decide +kernel) (by decide)))
      (cf_S_node
       (cf_S_leaf (cf_S_istore_n (j := 2) (by decide +kernel) rfl (by decide)))
       (cf_S_leaf (cf_S_iload_n (j := 2) (by decide +kernel) rfl))))))
   (cf_S_node
    (cf_S_node
     (cf_S_node
      (cf_S_leaf (cf_S_bipush (n := 64) (by decide +kernel) (by decide +kernel)))
      (cf_S_leaf (cf_S_icge (off := 125) (by decide +kernel) (by decide))))
     (cf_S_node
      (cf_S_leaf (cf_S_aload_n (j := 0) (by decide +kernel) rfl))
      (cf_S_node
       (cf_S_leaf (cf_S_get (T := cf_T2) (N := 3) (idx := 15) rfl (by decide) cf_la2 (cf_mem 111 (by decide +kernel)) (by decide +kernel)))
       (cf_S_leaf (cf_S_callS (d := 0) (idx := 28) (ct_J_bitCount l) sh_J_bitCount (cf_mem 335 (by decide +kernel)) (cf_mem 364 (by decide +kernel)) (cf_mem 334 (by decide +kernel)) (cf_mem 44 (by decide +kernel)) ⟨⟨by decide +kernel, by decide +kernel⟩, by decide +kernel⟩ ⟨by decide, by decide⟩ (by decide +kernel))))))
    (cf_S_node
     (cf_S_node
      (cf_S_leaf (cf_S_istore_n (j := 3) (by decide +kernel) rfl (by decide)))
      (cf_S_leaf (cf_S_iload_n (j := 3) (by decide +kernel) rfl)))
     (cf_S_node
      (cf_S_leaf (cf_S_iconst (n := 1) (by decide +kernel) (by decide)))
      (cf_S_node
       (cf_S_leaf (cf_S_icgt (off := 5) (by decide +kernel) (by decide)))
       (cf_S_leaf (cf_S_iconst (n := -1) (by decide +kernel) (by decide))))))))
  (cf_S_node
   (cf_S_node
    (cf_S_node
     (cf_S_node
      (cf_S_leaf (cf_S_iret (by decide +kernel)))
      (cf_S_leaf (cf_S_iconst (n := 0) (by decide +kernel) (by decide))))
     (cf_S_node
      (cf_S_leaf (cf_S_istore (by decide +kernel) (by decide)))
      (cf_S_node
       (cf_S_leaf (cf_S_aload_n (j := 0) (by decide +kernel) rfl))
       (cf_S_leaf (cf_S_iconst (n := 0) (by decide +kernel) (by decide))))))
    (cf_S_node
     (cf_S_node
      (cf_S_leaf (cf_S_iload_n (j := 3) (by decide +kernel) rfl))
      (cf_S_leaf (cf_S_callV (d := 1) (idx := 34) (ct_R_firstNotHarmless l) sh_R_firstNotHarmless rfl (cf_mem 368 (by decide +kernel)) (cf_mem 365 (by decide +kernel)) (cf_mem 367 (by decide +kernel)) (cf_mem 11 (by decide +kernel)) (cf_mem 40 (by decide +kernel)) ⟨⟨by decide +kernel, by decide +kernel⟩, by decide +kernel⟩ ⟨by decide, by decide⟩ (by decide +kernel))))
     (cf_S_node
      (cf_S_leaf (cf_S_istore (by decide +kernel) (by decide)))
      (cf_S_node
       (cf_S_leaf (cf_S_iload (by decide +kernel)))
       (cf_S_leaf (cf_S_ifne (off := 14) (by decide +kernel) (by decide)))))))
   (cf_S_node
    (cf_S_node
     (cf_S_node
      (cf_S_leaf (cf_S_iconst (n := 1) (by decide +kernel) (by decide)))
      (cf_S_leaf (cf_S_istore (by decide +kernel) (by decide))))
     (cf_S_node
      (cf_S_leaf (cf_S_aload_n (j := 0) (by decide +kernel) rfl))
      (cf_S_node
       (cf_S_leaf (cf_S_iconst (n := 1) (by decide +kernel) (by decide)))
       (cf_S_leaf (cf_S_iload_n (j := 3) (by decide +kernel) rfl)))))
    (cf_S_node
     (cf_S_node
      (cf_S_leaf (cf_S_callV (d := 1) (idx := 34) (ct_R_firstNotHarmless l) sh_R_firstNotHarmless rfl (cf_mem 368 (by decide +kernel)) (cf_mem 365 (by decide +kernel)) (cf_mem 367 (by decide +kernel)) (cf_mem 11 (by decide +kernel)) (cf_mem 40 (by decide +kernel)) ⟨⟨by decide +kernel, by decide +kernel⟩, by decide +kernel⟩ ⟨by decide, by decide⟩ (by decide +kernel)))
      (cf_S_leaf (cf_S_istore (by decide +kernel) (by decide))))
     (cf_S_node
      (cf_S_leaf (cf_S_iload (by decide +kernel)))
      (cf_S_node
       (cf_S_leaf (cf_S_ifne (off := 30) (by decide +kernel) (by decide)))
       (cf_S_leaf (cf_S_aload_n (j := 0) (by decide +kernel) rfl))))))))
 (cf_S_node
  (cf_S_node
   (cf_S_node
    (cf_S_node
     (cf_S_node
      (cf_S_leaf (cf_S_get (T := cf_T2) (N := 3) (idx := 19) rfl (by decide) cf_la2 (cf_mem 113 (by decide +kernel)) (by decide +kernel)))
      (cf_S_leaf (cf_S_iload_n (j := 3) (by decide +kernel) rfl)))
     (cf_S_node
      (cf_S_leaf (cf_S_iclt (off := 5) (by decide +kernel) (by decide)))
      (cf_S_node
       (cf_S_leaf (cf_S_iconst (n := -1) (by decide +kernel) (by decide)))
       (cf_S_leaf (cf_S_iret (by decide +kernel))))))
    (cf_S_node
     (cf_S_node
      (cf_S_leaf (cf_S_aload_n (j := 0) (by decide +kernel) rfl))
      (cf_S_leaf (cf_S_iconst (n := 2) (by decide +kernel) (by decide))))
     (cf_S_node
      (cf_S_leaf (cf_S_aload_n (j := 0) (by decide +kernel) rfl))
      (cf_S_node
       (cf_S_leaf (cf_S_get (T := cf_T2) (N := 3) (idx := 19) rfl (by decide) cf_la2 (cf_mem 113 (by decide +kernel)) (by decide +kernel)))
       (cf_S_leaf (cf_S_imul (by decide +kernel)))))))
   (cf_S_node
    (cf_S_node
     (cf_S_node
      (cf_S_leaf (cf_S_iload_n (j := 3) (by decide +kernel) rfl))
      (cf_S_leaf (cf_S_mmn (idx := 38) (cf_mem 373 (by decide +kernel)) (cf_mem 350 (by decide +kernel)) (cf_mem 349 (by decide +kernel)) (cf_mem 45 (by decide +kernel)) ⟨by decide, by decide⟩ (by decide +kernel))))
     (cf_S_node
      (cf_S_leaf (cf_S_put (T := cf_T2) (N := 3) (idx := 19) (tT := cf_y2) rfl (by decide) cf_la2 cf_ty2 cf_nm2 rfl (by decide +kernel) (cf_mem 113 (by decide +kernel)) (by decide +kernel)))
      (cf_S_node
       (cf_S_leaf (cf_S_goto (off := 45) (by decide +kernel) (by decide)))
       (cf_S_leaf (cf_S_aload_n (j := 0) (by decide +kernel) rfl)))))
    (cf_S_node
     (cf_S_node
      (cf_S_leaf (cf_S_get (T := cf_T2) (N := 3) (idx := 9) rfl (by decide) cf_la2 (cf_mem 110 (by decide +kernel)) (by decide +kernel)))
      (cf_S_leaf (cf_S_iload (by decide +kernel))))
     (cf_S_node
      (cf_S_leaf (cf_S_iald (by decide +kernel)))
      (cf_S_node
       (cf_S_leaf (cf_S_ifne (off := 6) (by decide +kernel) (by decide)))
       (cf_S_leaf (cf_S_iload (by decide +kernel))))))))
  (cf_S_node
   (cf_S_node
    (cf_S_node
     (cf_S_node
      (cf_S_leaf (cf_S_iret (by decide +kernel)))
      (cf_S_leaf (cf_S_aload_n (j := 0) (by decide +kernel) rfl)))
     (cf_S_node
      (cf_S_leaf (cf_S_iload (by decide +kernel)))
      (cf_S_node
       (cf_S_leaf (cf_S_put (T := cf_T2) (N := 3) (idx := 15) (tT := cf_y2) rfl (by decide) cf_la2 cf_ty2 cf_nm2 rfl (by decide +kernel) (cf_mem 111 (by decide +kernel)) (by decide +kernel)))
       (cf_S_leaf (cf_S_aload_n (j := 0) (by decide +kernel) rfl)))))
    (cf_S_node
     (cf_S_node
      (cf_S_leaf (cf_S_iload (by decide +kernel)))
      (cf_S_leaf (cf_S_ifeq (off := 16) (by decide +kernel) (by decide))))
     (cf_S_node
      (cf_S_leaf (cf_S_aload_n (j := 0) (by decide +kernel) rfl))
      (cf_S_node
       (cf_S_leaf (cf_S_get (T := cf_T2) (N := 3) (idx := 19) rfl (by decide) cf_la2 (cf_mem 113 (by decide +kernel)) (by decide +kernel)))
       (cf_S_leaf (cf_S_iconst (n := 1) (by decide +kernel) (by decide)))))))
   (cf_S_node
    (cf_S_node
     (cf_S_node
      (cf_S_leaf (cf_S_isub (by decide +kernel)))
      (cf_S_leaf (cf_S_iconst (n := 2) (by decide +kernel) (by decide))))
     (cf_S_node
      (cf_S_leaf (cf_S_mmx (idx := 44) (cf_mem 374 (by decide +kernel)) (cf_mem 376 (by decide +kernel)) (cf_mem 375 (by decide +kernel)) (cf_mem 45 (by decide +kernel)) ⟨by decide, by decide⟩ (by decide +kernel)))
      (cf_S_node
       (cf_S_leaf (cf_S_goto (off := 4) (by decide +kernel) (by decide)))
       (cf_S_leaf (cf_S_iconst (n := 2) (by decide +kernel) (by decide))))))
    (cf_S_node
     (cf_S_node
      (cf_S_leaf (cf_S_put (T := cf_T2) (N := 3) (idx := 19) (tT := cf_y2) rfl (by decide) cf_la2 cf_ty2 cf_nm2 rfl (by decide +kernel) (cf_mem 113 (by decide +kernel)) (by decide +kernel)))
      (cf_S_leaf (cf_S_iinc (n := 1) (by decide +kernel) (by decide) (by decide))))
     (cf_S_node
      (cf_S_leaf (cf_S_goto (off := -125) (by decide +kernel) (by decide)))
      (cf_S_node
       (cf_S_leaf (cf_S_iconst (n := -1) (by decide +kernel) (by decide)))
       (cf_S_leaf (cf_S_iret (by decide +kernel)))))))))
theorem ct_R_follow (l : Launch) : ∀ as w q, F_R_follow as w = some q → cf_Ct l (⟨"CulpritFinder$Reduction", "follow", "(I)I"⟩ : MethodName) prog_4_method_4_code 6 (some .int) 2 as w q := cf_F_ct (sd_R_follow l) (by decide)
theorem sh_R_follow : ∀ as w q, F_R_follow as w = some q → ∃ (k : Nat) (as' : List cf_AV) (fs : List (Option Nat)), as = .inr k :: as' ∧ as'.length = 1 ∧ cf_shp k = .inr (2, fs) := cf_shV_of rfl
set_option maxRecDepth 100000 in
theorem sd_S_planReducing (l : Launch) (pc : Nat) : cf_S l (cf_rm 3) prog_5_method_15_code 3 "CulpritFinder$Search" pc (T_S_planReducing pc) := cf_S_node
 (cf_S_node
  (cf_S_node
   (cf_S_node
    (cf_S_node
     (cf_S_leaf (cf_S_aload_n (j := 0) (by decide +kernel) rfl))
     (cf_S_node
      (cf_S_leaf (cf_S_get (T := cf_T3) (N := 17) (idx := 63) rfl (by decide) cf_la3 (cf_mem 121 (by decide +kernel)) (by decide +kernel)))
      (cf_S_leaf (cf_S_getN (T := cf_T0) (N := 5) (host := "CulpritFinder") (idx := 112) rfl (by decide) cf_la0 (cf_mem 61 (by decide +kernel)) (by decide +kernel)))))
    (cf_S_node
     (cf_S_leaf (cf_S_aload_n (j := 0) (by decide +kernel) rfl))
     (cf_S_node
      (cf_S_leaf (cf_S_get (T := cf_T3) (N := 17) (idx := 50) rfl (by decide) cf_la3 (cf_mem 139 (by decide +kernel)) (by decide +kernel)))
      (cf_S_leaf (cf_S_iald (by decide +kernel))))))
   (cf_S_node
    (cf_S_node
     (cf_S_leaf (cf_S_istore_n (j := 1) (by decide +kernel) rfl (by decide)))
     (cf_S_node
      (cf_S_leaf (cf_S_iload_n (j := 1) (by decide +kernel) rfl))
      (cf_S_leaf (cf_S_iconst (n := -1) (by decide +kernel) (by decide)))))
    (cf_S_node
     (cf_S_node
      (cf_S_leaf (cf_S_iceq (off := 18) (by decide +kernel) (by decide)))
      (cf_S_leaf (cf_S_aload_n (j := 0) (by decide +kernel) rfl)))
     (cf_S_node
      (cf_S_leaf (cf_S_get (T := cf_T3) (N := 17) (idx := 22) rfl (by decide) cf_la3 (cf_mem 127 (by decide +kernel)) (by decide +kernel)))
      (cf_S_leaf (cf_S_iload_n (j := 1) (by decide +kernel) rfl))))))
  (cf_S_node
   (cf_S_node
    (cf_S_node
     (cf_S_leaf (cf_S_iald (by decide +kernel)))
     (cf_S_node
      (cf_S_leaf (cf_S_ifne (off := 9) (by decide +kernel) (by decide)))
      (cf_S_leaf (cf_S_aload_n (j := 0) (by decide +kernel) rfl))))
    (cf_S_node
     (cf_S_leaf (cf_S_iload_n (j := 1) (by decide +kernel) rfl))
     (cf_S_node
      (cf_S_leaf (cf_S_put (T := cf_T3) (N := 17) (idx := 53) (tT := cf_y3) rfl (by decide) cf_la3 cf_ty3 cf_nm3 rfl (by decide +kernel) (cf_mem 141 (by decide +kernel)) (by decide +kernel)))
      (cf_S_leaf (cf_S_vret (by decide +kernel))))))
   (cf_S_node
    (cf_S_node
     (cf_S_leaf (cf_S_iconst (n := -1) (by decide +kernel) (by decide)))
     (cf_S_node
      (cf_S_leaf (cf_S_istore_n (j := 2) (by decide +kernel) rfl (by decide)))
      (cf_S_leaf (cf_S_iload_n (j := 1) (by decide +kernel) rfl))))
    (cf_S_node
     (cf_S_node
      (cf_S_leaf (cf_S_iconst (n := -1) (by decide +kernel) (by decide)))
      (cf_S_leaf (cf_S_iceq (off := 33) (by decide +kernel) (by decide))))
     (cf_S_node
      (cf_S_leaf (cf_S_aload_n (j := 0) (by decide +kernel) rfl))
      (cf_S_leaf (cf_S_get (T := cf_T3) (N := 17) (idx := 22) rfl (by decide) cf_la3 (cf_mem 127 (by decide +kernel)) (by decide +kernel))))))))
 (cf_S_node
  (cf_S_node
   (cf_S_node
    (cf_S_node
     (cf_S_leaf (cf_S_iload_n (j := 1) (by decide +kernel) rfl))
     (cf_S_node
      (cf_S_leaf (cf_S_iald (by decide +kernel)))
      (cf_S_leaf (cf_S_iconst (n := 1) (by decide +kernel) (by decide)))))
    (cf_S_node
     (cf_S_leaf (cf_S_icne (off := 23) (by decide +kernel) (by decide)))
     (cf_S_node
      (cf_S_leaf (cf_S_aload_n (j := 0) (by decide +kernel) rfl))
      (cf_S_leaf (cf_S_get (T := cf_T3) (N := 17) (idx := 12) rfl (by decide) cf_la3 (cf_mem 123 (by decide +kernel)) (by decide +kernel))))))
   (cf_S_node
    (cf_S_node
     (cf_S_leaf (cf_S_aload_n (j := 0) (by decide +kernel) rfl))
     (cf_S_node
      (cf_S_leaf (cf_S_get (T := cf_T3) (N := 17) (idx := 63) rfl (by decide) cf_la3 (cf_mem 121 (by decide +kernel)) (by decide +kernel)))
      (cf_S_leaf (cf_S_iload_n (j := 1) (by decide +kernel) rfl))))
    (cf_S_node
     (cf_S_node
      (cf_S_leaf (cf_S_aload_n (j := 0) (by decide +kernel) rfl))
      (cf_S_leaf (cf_S_get (T := cf_T3) (N := 17) (idx := 50) rfl (by decide) cf_la3 (cf_mem 139 (by decide +kernel)) (by decide +kernel))))
     (cf_S_node
      (cf_S_leaf (cf_S_callV (d := 1) (idx := 153) (ct_H_changedLines l) sh_H_changedLines rfl (cf_mem 358 (by decide +kernel)) (cf_mem 355 (by decide +kernel)) (cf_mem 356 (by decide +kernel)) (cf_mem 357 (by decide +kernel)) (cf_mem 37 (by decide +kernel)) ⟨⟨by decide +kernel, by decide +kernel⟩, by decide +kernel⟩ ⟨by decide, by decide⟩ (by decide +kernel)))
      (cf_S_leaf (cf_S_callV (d := 2) (idx := 156) (ct_R_follow l) sh_R_follow rfl (cf_mem 363 (by decide +kernel)) (cf_mem 360 (by decide +kernel)) (cf_mem 361 (by decide +kernel)) (cf_mem 362 (by decide +kernel)) (cf_mem 40 (by decide +kernel)) ⟨⟨by decide +kernel, by decide +kernel⟩, by decide +kernel⟩ ⟨by decide, by decide⟩ (by decide +kernel)))))))
  (cf_S_node
   (cf_S_node
    (cf_S_node
     (cf_S_leaf (cf_S_istore_n (j := 2) (by decide +kernel) rfl (by decide)))
     (cf_S_node
      (cf_S_leaf (cf_S_iload_n (j := 2) (by decide +kernel) rfl))
      (cf_S_leaf (cf_S_iconst (n := -1) (by decide +kernel) (by decide)))))
    (cf_S_node
     (cf_S_node
      (cf_S_leaf (cf_S_icne (off := 11) (by decide +kernel) (by decide)))
      (cf_S_leaf (cf_S_aload_n (j := 0) (by decide +kernel) rfl)))
     (cf_S_node
      (cf_S_leaf (cf_S_iconst (n := 4) (by decide +kernel) (by decide)))
      (cf_S_leaf (cf_S_put (T := cf_T3) (N := 17) (idx := 29) (tT := cf_y3) rfl (by decide) cf_la3 cf_ty3 cf_nm3 rfl (by decide +kernel) (cf_mem 130 (by decide +kernel)) (by decide +kernel))))))
   (cf_S_node
    (cf_S_node
     (cf_S_leaf (cf_S_goto (off := 12) (by decide +kernel) (by decide)))
     (cf_S_node
      (cf_S_leaf (cf_S_aload_n (j := 0) (by decide +kernel) rfl))
      (cf_S_leaf (cf_S_sipush (n := 1000) (by decide +kernel) (by decide +kernel)))))
    (cf_S_node
     (cf_S_node
      (cf_S_leaf (cf_S_iload_n (j := 2) (by decide +kernel) rfl))
      (cf_S_leaf (cf_S_iadd (by decide +kernel))))
     (cf_S_node
      (cf_S_leaf (cf_S_put (T := cf_T3) (N := 17) (idx := 53) (tT := cf_y3) rfl (by decide) cf_la3 cf_ty3 cf_nm3 rfl (by decide +kernel) (cf_mem 141 (by decide +kernel)) (by decide +kernel)))
      (cf_S_leaf (cf_S_vret (by decide +kernel))))))))
theorem ct_S_planReducing (l : Launch) : ∀ as w q, F_S_planReducing as w = some q → cf_Ct l (⟨"CulpritFinder$Search", "planReducing", "()V"⟩ : MethodName) prog_5_method_15_code 3 none 3 as w q := cf_F_ct (sd_S_planReducing l) (by decide)
theorem sh_S_planReducing : ∀ as w q, F_S_planReducing as w = some q → ∃ (k : Nat) (as' : List cf_AV) (fs : List (Option Nat)), as = .inr k :: as' ∧ as'.length = 0 ∧ cf_shp k = .inr (3, fs) := cf_shV_of rfl
