set_option maxRecDepth 100000 in
theorem sd_M_setsBeforeReading (l : Launch) (pc : Nat) : cf_S l (cf_rm 2) prog_3_method_7_code 4 "CulpritFinder$Machine" pc (T_M_setsBeforeReading pc) := cf_S_node
 (cf_S_node
  (cf_S_node
   (cf_S_node
    (cf_S_node
     (cf_S_leaf (cf_S_iconst (n := 1) (by decide +kernel) (by decide)))
     (cf_S_leaf (cf_S_istore_n (j := 1) (by decide +kernel) rfl (by decide))))
    (cf_S_node
     (cf_S_leaf (cf_S_iconst (n := 0) (by decide +kernel) (by decide)))
     (cf_S_node
      (cf_S_leaf (cf_S_istore_n (j := 2) (by decide +kernel) rfl (by decide)))
      (cf_S_leaf (cf_S_iload_n (j := 2) (by decide +kernel) rfl)))))
   (cf_S_node
    (cf_S_node
     (cf_S_leaf (cf_S_bipush (n := 8) (by decide +kernel) (by decide +kernel)))
     (cf_S_leaf (cf_S_icge (off := 55) (by decide +kernel) (by decide))))
    (cf_S_node
     (cf_S_leaf (cf_S_aload_n (j := 0) (by decide +kernel) rfl))
     (cf_S_node
      (cf_S_leaf (cf_S_get (T := cf_T1) (N := 4) (idx := 9) rfl (by decide) cf_la1 (cf_mem 85 (by decide +kernel)) (by decide +kernel)))
      (cf_S_leaf (cf_S_iload_n (j := 2) (by decide +kernel) rfl))))))
  (cf_S_node
   (cf_S_node
    (cf_S_node
     (cf_S_leaf (cf_S_iald (by decide +kernel)))
     (cf_S_leaf (cf_S_istore_n (j := 3) (by decide +kernel) rfl (by decide))))
    (cf_S_node
     (cf_S_leaf (cf_S_iload_n (j := 3) (by decide +kernel) rfl))
     (cf_S_node
      (cf_S_leaf (cf_S_callS (d := 1) (idx := 51) (ct_M_readVariables l) sh_M_readVariables (cf_mem 273 (by decide +kernel)) (cf_mem 271 (by decide +kernel)) (cf_mem 272 (by decide +kernel)) (cf_mem 38 (by decide +kernel)) ⟨⟨by decide +kernel, by decide +kernel⟩, by decide +kernel⟩ ⟨by decide, by decide⟩ (by decide +kernel)))
      (cf_S_leaf (cf_S_iload_n (j := 1) (by decide +kernel) rfl)))))
   (cf_S_node
    (cf_S_node
     (cf_S_leaf (cf_S_iconst (n := -1) (by decide +kernel) (by decide)))
     (cf_S_leaf (cf_S_ixor (by decide +kernel))))
    (cf_S_node
     (cf_S_leaf (cf_S_iand (by decide +kernel)))
     (cf_S_node
      (cf_S_leaf (cf_S_ifeq (off := 5) (by decide +kernel) (by decide)))
      (cf_S_leaf (cf_S_iconst (n := 0) (by decide +kernel) (by decide))))))))
 (cf_S_node
  (cf_S_node
   (cf_S_node
    (cf_S_node
     (cf_S_leaf (cf_S_iret (by decide +kernel)))
     (cf_S_leaf (cf_S_iload_n (j := 3) (by decide +kernel) rfl)))
    (cf_S_node
     (cf_S_leaf (cf_S_callS (d := 0) (idx := 48) (ct_M_operation l) sh_M_operation (cf_mem 262 (by decide +kernel)) (cf_mem 260 (by decide +kernel)) (cf_mem 261 (by decide +kernel)) (cf_mem 38 (by decide +kernel)) ⟨⟨by decide +kernel, by decide +kernel⟩, by decide +kernel⟩ ⟨by decide, by decide⟩ (by decide +kernel)))
     (cf_S_node
      (cf_S_leaf (cf_S_iconst (n := 1) (by decide +kernel) (by decide)))
      (cf_S_leaf (cf_S_iceq (off := 12) (by decide +kernel) (by decide))))))
   (cf_S_node
    (cf_S_node
     (cf_S_leaf (cf_S_iload_n (j := 3) (by decide +kernel) rfl))
     (cf_S_leaf (cf_S_callS (d := 0) (idx := 48) (ct_M_operation l) sh_M_operation (cf_mem 262 (by decide +kernel)) (cf_mem 260 (by decide +kernel)) (cf_mem 261 (by decide +kernel)) (cf_mem 38 (by decide +kernel)) ⟨⟨by decide +kernel, by decide +kernel⟩, by decide +kernel⟩ ⟨by decide, by decide⟩ (by decide +kernel))))
    (cf_S_node
     (cf_S_leaf (cf_S_bipush (n := 8) (by decide +kernel) (by decide +kernel)))
     (cf_S_node
      (cf_S_leaf (cf_S_icne (off := 12) (by decide +kernel) (by decide)))
      (cf_S_leaf (cf_S_iload_n (j := 1) (by decide +kernel) rfl))))))
  (cf_S_node
   (cf_S_node
    (cf_S_node
     (cf_S_leaf (cf_S_iconst (n := 1) (by decide +kernel) (by decide)))
     (cf_S_leaf (cf_S_iload_n (j := 3) (by decide +kernel) rfl)))
    (cf_S_node
     (cf_S_leaf (cf_S_callS (d := 0) (idx := 54) (ct_M_left l) sh_M_left (cf_mem 276 (by decide +kernel)) (cf_mem 274 (by decide +kernel)) (cf_mem 275 (by decide +kernel)) (cf_mem 38 (by decide +kernel)) ⟨⟨by decide +kernel, by decide +kernel⟩, by decide +kernel⟩ ⟨by decide, by decide⟩ (by decide +kernel)))
     (cf_S_node
      (cf_S_leaf (cf_S_ishl (by decide +kernel)))
      (cf_S_leaf (cf_S_ior (by decide +kernel))))))
   (cf_S_node
    (cf_S_node
     (cf_S_leaf (cf_S_istore_n (j := 1) (by decide +kernel) rfl (by decide)))
     (cf_S_leaf (cf_S_iinc (n := 1) (by decide +kernel) (by decide) (by decide))))
    (cf_S_node
     (cf_S_leaf (cf_S_goto (off := -55) (by decide +kernel) (by decide)))
     (cf_S_node
      (cf_S_leaf (cf_S_iconst (n := 1) (by decide +kernel) (by decide)))
      (cf_S_leaf (cf_S_iret (by decide +kernel))))))))
theorem ct_M_setsBeforeReading (l : Launch) : ∀ as w q, F_M_setsBeforeReading as w = some q → cf_Ct l (⟨"CulpritFinder$Machine", "setsBeforeReading", "()Z"⟩ : MethodName) prog_3_method_7_code 4 (some .boolean) 2 as w q := cf_F_ct (sd_M_setsBeforeReading l) (by decide)
theorem sh_M_setsBeforeReading : ∀ as w q, F_M_setsBeforeReading as w = some q → ∃ (k : Nat) (as' : List cf_AV) (fs : List (Option Nat)), as = .inr k :: as' ∧ as'.length = 0 ∧ cf_shp k = .inr (1, fs) := cf_shV_of rfl
set_option maxRecDepth 100000 in
theorem sd_J_fill (l : Launch) (pc : Nat) : cf_S l (cf_rm 0) prog_11_method_103_code 4 "java/util/Arrays" pc (T_J_fill pc) := cf_S_node
 (cf_S_node
  (cf_S_node
   (cf_S_leaf (cf_S_iconst (n := 0) (by decide +kernel) (by decide)))
   (cf_S_node
    (cf_S_leaf (cf_S_istore_n (j := 2) (by decide +kernel) rfl (by decide)))
    (cf_S_leaf (cf_S_aload_n (j := 0) (by decide +kernel) rfl))))
  (cf_S_node
   (cf_S_node
    (cf_S_leaf (cf_S_alen (by decide +kernel)))
    (cf_S_leaf (cf_S_istore_n (j := 3) (by decide +kernel) rfl (by decide))))
   (cf_S_node
    (cf_S_leaf (cf_S_iload_n (j := 2) (by decide +kernel) rfl))
    (cf_S_leaf (cf_S_iload_n (j := 3) (by decide +kernel) rfl)))))
 (cf_S_node
  (cf_S_node
   (cf_S_node
    (cf_S_leaf (cf_S_icge (off := 13) (by decide +kernel) (by decide)))
    (cf_S_leaf (cf_S_aload_n (j := 0) (by decide +kernel) rfl)))
   (cf_S_node
    (cf_S_leaf (cf_S_iload_n (j := 2) (by decide +kernel) rfl))
    (cf_S_leaf (cf_S_iload_n (j := 1) (by decide +kernel) rfl))))
  (cf_S_node
   (cf_S_node
    (cf_S_leaf (cf_S_iast (by decide +kernel)))
    (cf_S_leaf (cf_S_iinc (n := 1) (by decide +kernel) (by decide) (by decide))))
   (cf_S_node
    (cf_S_leaf (cf_S_goto (off := -12) (by decide +kernel) (by decide)))
    (cf_S_leaf (cf_S_vret (by decide +kernel))))))
theorem ct_J_fill (l : Launch) : ∀ as w q, F_J_fill as w = some q → cf_Ct l (⟨"java/util/Arrays", "fill", "([II)V"⟩ : MethodName) prog_11_method_103_code 4 none 0 as w q := cf_F_ct (sd_J_fill l) (by decide)
theorem sh_J_fill : ∀ as w q, F_J_fill as w = some q → as.length = 2 := cf_shS_of
set_option maxRecDepth 100000 in
theorem sd_M_lineAfter (l : Launch) (pc : Nat) : cf_S l (cf_rm 1) prog_3_method_9_code 4 "CulpritFinder$Machine" pc (T_M_lineAfter pc) := cf_S_node
 (cf_S_node
  (cf_S_node
   (cf_S_node
    (cf_S_node
     (cf_S_node
      (cf_S_leaf (cf_S_aload_n (j := 0) (by decide +kernel) rfl))
      (cf_S_node
       (cf_S_leaf (cf_S_get (T := cf_T1) (N := 4) (idx := 9) rfl (by decide) cf_la1 (cf_mem 85 (by decide +kernel)) (by decide +kernel)))
       (cf_S_leaf (cf_S_iload_n (j := 1) (by decide +kernel) rfl))))
     (cf_S_node
      (cf_S_leaf (cf_S_iald (by decide +kernel)))
      (cf_S_node
       (cf_S_leaf (cf_S_callS (d := 0) (idx := 54) (ct_M_left l) sh_M_left (cf_mem 276 (by decide +kernel)) (cf_mem 274 (by decide +kernel)) (cf_mem 275 (by decide +kernel)) (cf_mem 38 (by decide +kernel)) ⟨⟨by decide +kernel, by decide +kernel⟩, by decide +kernel⟩ ⟨by decide, by decide⟩ (by decide +kernel)))
       (cf_S_leaf (cf_S_istore_n (j := 2) (by decide +kernel) rfl (by decide))))))
    (cf_S_node
     (cf_S_node
      (cf_S_leaf (cf_S_aload_n (j := 0) (by decide +kernel) rfl))
      (cf_S_node
       (cf_S_leaf (cf_S_get (T := cf_T1) (N := 4) (idx := 9) rfl (by decide) cf_la1 (cf_mem 85 (by decide +kernel)) (by decide +kernel)))
       (cf_S_leaf (cf_S_iload_n (j := 1) (by decide +kernel) rfl))))
     (cf_S_node
      (cf_S_leaf (cf_S_iald (by decide +kernel)))
      (cf_S_node
       (cf_S_leaf (cf_S_callS (d := 0) (idx := 66) (ct_M_right l) sh_M_right (cf_mem 279 (by decide +kernel)) (cf_mem 277 (by decide +kernel)) (cf_mem 278 (by decide +kernel)) (cf_mem 38 (by decide +kernel)) ⟨⟨by decide +kernel, by decide +kernel⟩, by decide +kernel⟩ ⟨by decide, by decide⟩ (by decide +kernel)))
       (cf_S_leaf (cf_S_istore_n (j := 3) (by decide +kernel) rfl (by decide)))))))
   (cf_S_node
    (cf_S_node
     (cf_S_node
      (cf_S_leaf (cf_S_aload_n (j := 0) (by decide +kernel) rfl))
      (cf_S_node
       (cf_S_leaf (cf_S_get (T := cf_T1) (N := 4) (idx := 9) rfl (by decide) cf_la1 (cf_mem 85 (by decide +kernel)) (by decide +kernel)))
       (cf_S_leaf (cf_S_iload_n (j := 1) (by decide +kernel) rfl))))
     (cf_S_node
      (cf_S_leaf (cf_S_iald (by decide +kernel)))
      (cf_S_node
       (cf_S_leaf (cf_S_callS (d := 0) (idx := 48) (ct_M_operation l) sh_M_operation (cf_mem 262 (by decide +kernel)) (cf_mem 260 (by decide +kernel)) (cf_mem 261 (by decide +kernel)) (cf_mem 38 (by decide +kernel)) ⟨⟨by decide +kernel, by decide +kernel⟩, by decide +kernel⟩ ⟨by decide, by decide⟩ (by decide +kernel)))
       (cf_S_leaf (cf_S_tsw (len := 47) (d := 167) (offs := #[47, 57, 75, 97, 97, 115, 140, 152]) (by decide +kernel) (by decide) (by decide) (by decide))))))
    (cf_S_node
     (cf_S_node
      (cf_S_leaf (cf_S_aload_n (j := 0) (by decide +kernel) rfl))
      (cf_S_node
       (cf_S_leaf (cf_S_get (T := cf_T1) (N := 4) (idx := 21) rfl (by decide) cf_la1 (cf_mem 88 (by decide +kernel)) (by decide +kernel)))
       (cf_S_leaf (cf_S_iload_n (j := 2) (by decide +kernel) rfl))))
     (cf_S_node
      (cf_S_leaf (cf_S_iload_n (j := 3) (by decide +kernel) rfl))
      (cf_S_node
       (cf_S_leaf (cf_S_iast (by decide +kernel)))
       (cf_S_leaf (cf_S_goto (off := 113) (by decide +kernel) (by decide))))))))
  (cf_S_node
   (cf_S_node
    (cf_S_node
     (cf_S_node
      (cf_S_leaf (cf_S_aload_n (j := 0) (by decide +kernel) rfl))
      (cf_S_node
       (cf_S_leaf (cf_S_get (T := cf_T1) (N := 4) (idx := 21) rfl (by decide) cf_la1 (cf_mem 88 (by decide +kernel)) (by decide +kernel)))
       (cf_S_leaf (cf_S_iload_n (j := 2) (by decide +kernel) rfl))))
     (cf_S_node
      (cf_S_leaf (cf_S_dup2 (by decide +kernel)))
      (cf_S_node
       (cf_S_leaf (cf_S_iald (by decide +kernel)))
       (cf_S_leaf (cf_S_aload_n (j := 0) (by decide +kernel) rfl)))))
    (cf_S_node
     (cf_S_node
      (cf_S_leaf (cf_S_get (T := cf_T1) (N := 4) (idx := 21) rfl (by decide) cf_la1 (cf_mem 88 (by decide +kernel)) (by decide +kernel)))
      (cf_S_node
       (cf_S_leaf (cf_S_iload_n (j := 3) (by decide +kernel) rfl))
       (cf_S_leaf (cf_S_iald (by decide +kernel)))))
     (cf_S_node
      (cf_S_leaf (cf_S_iadd (by decide +kernel)))
      (cf_S_node
       (cf_S_leaf (cf_S_iast (by decide +kernel)))
       (cf_S_leaf (cf_S_goto (off := 95) (by decide +kernel) (by decide)))))))
   (cf_S_node
    (cf_S_node
     (cf_S_node
      (cf_S_leaf (cf_S_aload_n (j := 0) (by decide +kernel) rfl))
      (cf_S_node
       (cf_S_leaf (cf_S_get (T := cf_T1) (N := 4) (idx := 21) rfl (by decide) cf_la1 (cf_mem 88 (by decide +kernel)) (by decide +kernel)))
       (cf_S_leaf (cf_S_iload_n (j := 2) (by decide +kernel) rfl))))
     (cf_S_node
      (cf_S_leaf (cf_S_iald (by decide +kernel)))
      (cf_S_node
       (cf_S_leaf (cf_S_ifle (off := 86) (by decide +kernel) (by decide)))
       (cf_S_leaf (cf_S_aload_n (j := 0) (by decide +kernel) rfl)))))
    (cf_S_node
     (cf_S_node
      (cf_S_leaf (cf_S_get (T := cf_T1) (N := 4) (idx := 21) rfl (by decide) cf_la1 (cf_mem 88 (by decide +kernel)) (by decide +kernel)))
      (cf_S_node
       (cf_S_leaf (cf_S_iload_n (j := 2) (by decide +kernel) rfl))
       (cf_S_leaf (cf_S_dup2 (by decide +kernel)))))
     (cf_S_node
      (cf_S_node
       (cf_S_leaf (cf_S_iald (by decide +kernel)))
       (cf_S_leaf (cf_S_iconst (n := 1) (by decide +kernel) (by decide))))
      (cf_S_node
       (cf_S_leaf (cf_S_isub (by decide +kernel)))
       (cf_S_leaf (cf_S_iast (by decide +kernel)))))))))
 (cf_S_node
  (cf_S_node
   (cf_S_node
    (cf_S_node
     (cf_S_node
      (cf_S_leaf (cf_S_goto (off := 73) (by decide +kernel) (by decide)))
      (cf_S_node
       (cf_S_leaf (cf_S_aload_n (j := 0) (by decide +kernel) rfl))
       (cf_S_leaf (cf_S_get (T := cf_T1) (N := 4) (idx := 21) rfl (by decide) cf_la1 (cf_mem 88 (by decide +kernel)) (by decide +kernel)))))
     (cf_S_node
      (cf_S_leaf (cf_S_iload_n (j := 2) (by decide +kernel) rfl))
      (cf_S_node
       (cf_S_leaf (cf_S_iald (by decide +kernel)))
       (cf_S_leaf (cf_S_ifne (off := 64) (by decide +kernel) (by decide))))))
    (cf_S_node
     (cf_S_node
      (cf_S_leaf (cf_S_aload_n (j := 0) (by decide +kernel) rfl))
      (cf_S_node
       (cf_S_leaf (cf_S_get (T := cf_T1) (N := 4) (idx := 15) rfl (by decide) cf_la1 (cf_mem 86 (by decide +kernel)) (by decide +kernel)))
       (cf_S_leaf (cf_S_iload_n (j := 1) (by decide +kernel) rfl))))
     (cf_S_node
      (cf_S_leaf (cf_S_iald (by decide +kernel)))
      (cf_S_node
       (cf_S_leaf (cf_S_iconst (n := 1) (by decide +kernel) (by decide)))
       (cf_S_leaf (cf_S_iadd (by decide +kernel)))))))
   (cf_S_node
    (cf_S_node
     (cf_S_node
      (cf_S_leaf (cf_S_iret (by decide +kernel)))
      (cf_S_node
       (cf_S_leaf (cf_S_aload_n (j := 0) (by decide +kernel) rfl))
       (cf_S_leaf (cf_S_get (T := cf_T1) (N := 4) (idx := 9) rfl (by decide) cf_la1 (cf_mem 85 (by decide +kernel)) (by decide +kernel)))))
     (cf_S_node
      (cf_S_leaf (cf_S_aload_n (j := 0) (by decide +kernel) rfl))
      (cf_S_node
       (cf_S_leaf (cf_S_get (T := cf_T1) (N := 4) (idx := 15) rfl (by decide) cf_la1 (cf_mem 86 (by decide +kernel)) (by decide +kernel)))
       (cf_S_leaf (cf_S_iload_n (j := 1) (by decide +kernel) rfl)))))
    (cf_S_node
     (cf_S_node
      (cf_S_leaf (cf_S_iald (by decide +kernel)))
      (cf_S_node
       (cf_S_leaf (cf_S_iald (by decide +kernel)))
       (cf_S_leaf (cf_S_callS (d := 0) (idx := 48) (ct_M_operation l) sh_M_operation (cf_mem 262 (by decide +kernel)) (cf_mem 260 (by decide +kernel)) (cf_mem 261 (by decide +kernel)) (cf_mem 38 (by decide +kernel)) ⟨⟨by decide +kernel, by decide +kernel⟩, by decide +kernel⟩ ⟨by decide, by decide⟩ (by decide +kernel)))))
     (cf_S_node
      (cf_S_leaf (cf_S_iconst (n := 4) (by decide +kernel) (by decide)))
      (cf_S_node
       (cf_S_leaf (cf_S_icne (off := 37) (by decide +kernel) (by decide)))
       (cf_S_leaf (cf_S_aload_n (j := 0) (by decide +kernel) rfl)))))))
  (cf_S_node
   (cf_S_node
    (cf_S_node
     (cf_S_node
      (cf_S_leaf (cf_S_get (T := cf_T1) (N := 4) (idx := 15) rfl (by decide) cf_la1 (cf_mem 86 (by decide +kernel)) (by decide +kernel)))
      (cf_S_node
       (cf_S_leaf (cf_S_iload_n (j := 1) (by decide +kernel) rfl))
       (cf_S_leaf (cf_S_iald (by decide +kernel)))))
     (cf_S_node
      (cf_S_leaf (cf_S_iret (by decide +kernel)))
      (cf_S_node
       (cf_S_leaf (cf_S_aload_n (j := 0) (by decide +kernel) rfl))
       (cf_S_leaf (cf_S_get (T := cf_T1) (N := 4) (idx := 21) rfl (by decide) cf_la1 (cf_mem 88 (by decide +kernel)) (by decide +kernel))))))
    (cf_S_node
     (cf_S_node
      (cf_S_leaf (cf_S_iload_n (j := 2) (by decide +kernel) rfl))
      (cf_S_node
       (cf_S_leaf (cf_S_iald (by decide +kernel)))
       (cf_S_leaf (cf_S_iload_n (j := 3) (by decide +kernel) rfl))))
     (cf_S_node
      (cf_S_leaf (cf_S_iceq (off := 20) (by decide +kernel) (by decide)))
      (cf_S_node
       (cf_S_leaf (cf_S_iconst (n := -1) (by decide +kernel) (by decide)))
       (cf_S_leaf (cf_S_iret (by decide +kernel)))))))
   (cf_S_node
    (cf_S_node
     (cf_S_node
      (cf_S_leaf (cf_S_aload_n (j := 0) (by decide +kernel) rfl))
      (cf_S_node
       (cf_S_leaf (cf_S_get (T := cf_T1) (N := 4) (idx := 21) rfl (by decide) cf_la1 (cf_mem 88 (by decide +kernel)) (by decide +kernel)))
       (cf_S_leaf (cf_S_iload_n (j := 2) (by decide +kernel) rfl))))
     (cf_S_node
      (cf_S_leaf (cf_S_aload_n (j := 0) (by decide +kernel) rfl))
      (cf_S_node
       (cf_S_leaf (cf_S_get (T := cf_T1) (N := 4) (idx := 21) rfl (by decide) cf_la1 (cf_mem 88 (by decide +kernel)) (by decide +kernel)))
       (cf_S_leaf (cf_S_iload_n (j := 3) (by decide +kernel) rfl)))))
    (cf_S_node
     (cf_S_node
      (cf_S_leaf (cf_S_iald (by decide +kernel)))
      (cf_S_node
       (cf_S_leaf (cf_S_iast (by decide +kernel)))
       (cf_S_leaf (cf_S_goto (off := 3) (by decide +kernel) (by decide)))))
     (cf_S_node
      (cf_S_node
       (cf_S_leaf (cf_S_iload_n (j := 1) (by decide +kernel) rfl))
       (cf_S_leaf (cf_S_iconst (n := 1) (by decide +kernel) (by decide))))
      (cf_S_node
       (cf_S_leaf (cf_S_iadd (by decide +kernel)))
       (cf_S_leaf (cf_S_iret (by decide +kernel)))))))))
theorem ct_M_lineAfter (l : Launch) : ∀ as w q, F_M_lineAfter as w = some q → cf_Ct l (⟨"CulpritFinder$Machine", "lineAfter", "(I)I"⟩ : MethodName) prog_3_method_9_code 4 (some .int) 1 as w q := cf_F_ct (sd_M_lineAfter l) (by decide)
theorem sh_M_lineAfter : ∀ as w q, F_M_lineAfter as w = some q → ∃ (k : Nat) (as' : List cf_AV) (fs : List (Option Nat)), as = .inr k :: as' ∧ as'.length = 1 ∧ cf_shp k = .inr (1, fs) := cf_shV_of rfl
set_option maxRecDepth 100000 in
theorem sd_M_runWith (l : Launch) (pc : Nat) : cf_S l (cf_rm 2) prog_3_method_8_code 4 "CulpritFinder$Machine" pc (T_M_runWith pc) := cf_S_node
 (cf_S_node
  (cf_S_node
   (cf_S_node
    (cf_S_node
     (cf_S_leaf (cf_S_aload_n (j := 0) (by decide +kernel) rfl))
     (cf_S_leaf (cf_S_get (T := cf_T1) (N := 4) (idx := 21) rfl (by decide) cf_la1 (cf_mem 88 (by decide +kernel)) (by decide +kernel))))
    (cf_S_node
     (cf_S_leaf (cf_S_iconst (n := 0) (by decide +kernel) (by decide)))
     (cf_S_leaf (cf_S_callS (d := 0) (idx := 57) (ct_J_fill l) sh_J_fill (cf_mem 286 (by decide +kernel)) (cf_mem 284 (by decide +kernel)) (cf_mem 285 (by decide +kernel)) (cf_mem 43 (by decide +kernel)) ⟨⟨by decide +kernel, by decide +kernel⟩, by decide +kernel⟩ ⟨by decide, by decide⟩ (by decide +kernel)))))
   (cf_S_node
    (cf_S_node
     (cf_S_leaf (cf_S_aload_n (j := 0) (by decide +kernel) rfl))
     (cf_S_leaf (cf_S_get (T := cf_T1) (N := 4) (idx := 21) rfl (by decide) cf_la1 (cf_mem 88 (by decide +kernel)) (by decide +kernel))))
    (cf_S_node
     (cf_S_leaf (cf_S_iconst (n := 0) (by decide +kernel) (by decide)))
     (cf_S_node
      (cf_S_leaf (cf_S_iload_n (j := 1) (by decide +kernel) rfl))
      (cf_S_leaf (cf_S_iast (by decide +kernel)))))))
  (cf_S_node
   (cf_S_node
    (cf_S_node
     (cf_S_leaf (cf_S_iconst (n := 0) (by decide +kernel) (by decide)))
     (cf_S_leaf (cf_S_istore_n (j := 2) (by decide +kernel) rfl (by decide))))
    (cf_S_node
     (cf_S_leaf (cf_S_iconst (n := 0) (by decide +kernel) (by decide)))
     (cf_S_leaf (cf_S_istore_n (j := 3) (by decide +kernel) rfl (by decide)))))
   (cf_S_node
    (cf_S_node
     (cf_S_leaf (cf_S_iload_n (j := 3) (by decide +kernel) rfl))
     (cf_S_leaf (cf_S_bipush (n := 80) (by decide +kernel) (by decide +kernel))))
    (cf_S_node
     (cf_S_leaf (cf_S_icge (off := 28) (by decide +kernel) (by decide)))
     (cf_S_node
      (cf_S_leaf (cf_S_iload_n (j := 2) (by decide +kernel) rfl))
      (cf_S_leaf (cf_S_bipush (n := 8) (by decide +kernel) (by decide +kernel))))))))
 (cf_S_node
  (cf_S_node
   (cf_S_node
    (cf_S_node
     (cf_S_leaf (cf_S_icge (off := 22) (by decide +kernel) (by decide)))
     (cf_S_leaf (cf_S_aload_n (j := 0) (by decide +kernel) rfl)))
    (cf_S_node
     (cf_S_leaf (cf_S_iload_n (j := 2) (by decide +kernel) rfl))
     (cf_S_leaf (cf_S_callV (d := 1) (idx := 63) (ct_M_lineAfter l) sh_M_lineAfter rfl (cf_mem 290 (by decide +kernel)) (cf_mem 287 (by decide +kernel)) (cf_mem 289 (by decide +kernel)) (cf_mem 5 (by decide +kernel)) (cf_mem 38 (by decide +kernel)) ⟨⟨by decide +kernel, by decide +kernel⟩, by decide +kernel⟩ ⟨by decide, by decide⟩ (by decide +kernel)))))
   (cf_S_node
    (cf_S_node
     (cf_S_leaf (cf_S_istore_n (j := 2) (by decide +kernel) rfl (by decide)))
     (cf_S_leaf (cf_S_iload_n (j := 2) (by decide +kernel) rfl)))
    (cf_S_node
     (cf_S_leaf (cf_S_iconst (n := -1) (by decide +kernel) (by decide)))
     (cf_S_node
      (cf_S_leaf (cf_S_icne (off := 5) (by decide +kernel) (by decide)))
      (cf_S_leaf (cf_S_iconst (n := 2) (by decide +kernel) (by decide)))))))
  (cf_S_node
   (cf_S_node
    (cf_S_node
     (cf_S_leaf (cf_S_iret (by decide +kernel)))
     (cf_S_leaf (cf_S_iinc (n := 1) (by decide +kernel) (by decide) (by decide))))
    (cf_S_node
     (cf_S_leaf (cf_S_goto (off := -28) (by decide +kernel) (by decide)))
     (cf_S_node
      (cf_S_leaf (cf_S_iload_n (j := 2) (by decide +kernel) rfl))
      (cf_S_leaf (cf_S_bipush (n := 8) (by decide +kernel) (by decide +kernel))))))
   (cf_S_node
    (cf_S_node
     (cf_S_leaf (cf_S_icge (off := 7) (by decide +kernel) (by decide)))
     (cf_S_leaf (cf_S_iconst (n := 2) (by decide +kernel) (by decide))))
    (cf_S_node
     (cf_S_leaf (cf_S_goto (off := 4) (by decide +kernel) (by decide)))
     (cf_S_node
      (cf_S_leaf (cf_S_iconst (n := 1) (by decide +kernel) (by decide)))
      (cf_S_leaf (cf_S_iret (by decide +kernel))))))))
theorem ct_M_runWith (l : Launch) : ∀ as w q, F_M_runWith as w = some q → cf_Ct l (⟨"CulpritFinder$Machine", "runWith", "(I)I"⟩ : MethodName) prog_3_method_8_code 4 (some .int) 2 as w q := cf_F_ct (sd_M_runWith l) (by decide)
theorem sh_M_runWith : ∀ as w q, F_M_runWith as w = some q → ∃ (k : Nat) (as' : List cf_AV) (fs : List (Option Nat)), as = .inr k :: as' ∧ as'.length = 1 ∧ cf_shp k = .inr (1, fs) := cf_shV_of rfl
set_option maxRecDepth 100000 in
theorem sd_M_judge (l : Launch) (pc : Nat) : cf_S l (cf_rm 3) prog_3_method_4_code 2 "CulpritFinder$Machine" pc (T_M_judge pc) := cf_S_node
 (cf_S_node
  (cf_S_node
   (cf_S_leaf (cf_S_aload_n (j := 0) (by decide +kernel) rfl))
   (cf_S_node
    (cf_S_leaf (cf_S_callV (d := 1) (idx := 34) (ct_M_hasOperations l) sh_M_hasOperations rfl (cf_mem 259 (by decide +kernel)) (cf_mem 256 (by decide +kernel)) (cf_mem 258 (by decide +kernel)) (cf_mem 1 (by decide +kernel)) (cf_mem 38 (by decide +kernel)) ⟨⟨by decide +kernel, by decide +kernel⟩, by decide +kernel⟩ ⟨by decide, by decide⟩ (by decide +kernel)))
    (cf_S_leaf (cf_S_ifeq (off := 17) (by decide +kernel) (by decide)))))
  (cf_S_node
   (cf_S_node
    (cf_S_leaf (cf_S_aload_n (j := 0) (by decide +kernel) rfl))
    (cf_S_leaf (cf_S_callV (d := 1) (idx := 38) (ct_M_pairsBlocks l) sh_M_pairsBlocks rfl (cf_mem 266 (by decide +kernel)) (cf_mem 263 (by decide +kernel)) (cf_mem 265 (by decide +kernel)) (cf_mem 2 (by decide +kernel)) (cf_mem 38 (by decide +kernel)) ⟨⟨by decide +kernel, by decide +kernel⟩, by decide +kernel⟩ ⟨by decide, by decide⟩ (by decide +kernel))))
   (cf_S_node
    (cf_S_leaf (cf_S_ifeq (off := 10) (by decide +kernel) (by decide)))
    (cf_S_leaf (cf_S_aload_n (j := 0) (by decide +kernel) rfl)))))
 (cf_S_node
  (cf_S_node
   (cf_S_node
    (cf_S_leaf (cf_S_callV (d := 2) (idx := 41) (ct_M_setsBeforeReading l) sh_M_setsBeforeReading rfl (cf_mem 270 (by decide +kernel)) (cf_mem 267 (by decide +kernel)) (cf_mem 269 (by decide +kernel)) (cf_mem 3 (by decide +kernel)) (cf_mem 38 (by decide +kernel)) ⟨⟨by decide +kernel, by decide +kernel⟩, by decide +kernel⟩ ⟨by decide, by decide⟩ (by decide +kernel)))
    (cf_S_leaf (cf_S_ifne (off := 5) (by decide +kernel) (by decide))))
   (cf_S_node
    (cf_S_leaf (cf_S_iconst (n := 3) (by decide +kernel) (by decide)))
    (cf_S_leaf (cf_S_iret (by decide +kernel)))))
  (cf_S_node
   (cf_S_node
    (cf_S_leaf (cf_S_aload_n (j := 0) (by decide +kernel) rfl))
    (cf_S_leaf (cf_S_iload_n (j := 1) (by decide +kernel) rfl)))
   (cf_S_node
    (cf_S_leaf (cf_S_callV (d := 2) (idx := 44) (ct_M_runWith l) sh_M_runWith rfl (cf_mem 283 (by decide +kernel)) (cf_mem 280 (by decide +kernel)) (cf_mem 282 (by decide +kernel)) (cf_mem 4 (by decide +kernel)) (cf_mem 38 (by decide +kernel)) ⟨⟨by decide +kernel, by decide +kernel⟩, by decide +kernel⟩ ⟨by decide, by decide⟩ (by decide +kernel)))
    (cf_S_leaf (cf_S_iret (by decide +kernel))))))
theorem ct_M_judge (l : Launch) : ∀ as w q, F_M_judge as w = some q → cf_Ct l (⟨"CulpritFinder$Machine", "judge", "(I)I"⟩ : MethodName) prog_3_method_4_code 2 (some .int) 3 as w q := cf_F_ct (sd_M_judge l) (by decide)
theorem sh_M_judge : ∀ as w q, F_M_judge as w = some q → ∃ (k : Nat) (as' : List cf_AV) (fs : List (Option Nat)), as = .inr k :: as' ∧ as'.length = 1 ∧ cf_shp k = .inr (1, fs) := cf_shV_of rfl
set_option maxRecDepth 100000 in
theorem sd_C_verdict (l : Launch) (pc : Nat) : cf_S l (cf_rm 4) prog_1_method_5_code 3 "CulpritFinder" pc (T_C_verdict pc) := cf_S_node
 (cf_S_node
  (cf_S_node
   (cf_S_node
    (cf_S_leaf (cf_S_aload_n (j := 0) (by decide +kernel) rfl))
    (cf_S_leaf (cf_S_get (T := cf_T4) (N := 3) (idx := 12) rfl (by decide) cf_la4 (cf_mem 181 (by decide +kernel)) (by decide +kernel))))
   (cf_S_node
    (cf_S_leaf (cf_S_iload_n (j := 1) (by decide +kernel) rfl))
    (cf_S_leaf (cf_S_callV (d := 0) (idx := 58) (ct_H_has l) sh_H_has rfl (cf_mem 202 (by decide +kernel)) (cf_mem 242 (by decide +kernel)) (cf_mem 200 (by decide +kernel)) (cf_mem 201 (by decide +kernel)) (cf_mem 37 (by decide +kernel)) ⟨⟨by decide +kernel, by decide +kernel⟩, by decide +kernel⟩ ⟨by decide, by decide⟩ (by decide +kernel)))))
  (cf_S_node
   (cf_S_node
    (cf_S_leaf (cf_S_ifne (off := 5) (by decide +kernel) (by decide)))
    (cf_S_leaf (cf_S_iconst (n := 0) (by decide +kernel) (by decide))))
   (cf_S_node
    (cf_S_leaf (cf_S_iret (by decide +kernel)))
    (cf_S_node
     (cf_S_leaf (cf_S_aload_n (j := 0) (by decide +kernel) rfl))
     (cf_S_leaf (cf_S_get (T := cf_T4) (N := 3) (idx := 19) rfl (by decide) cf_la4 (cf_mem 182 (by decide +kernel)) (by decide +kernel)))))))
 (cf_S_node
  (cf_S_node
   (cf_S_node
    (cf_S_leaf (cf_S_aload_n (j := 0) (by decide +kernel) rfl))
    (cf_S_leaf (cf_S_get (T := cf_T4) (N := 3) (idx := 12) rfl (by decide) cf_la4 (cf_mem 181 (by decide +kernel)) (by decide +kernel))))
   (cf_S_node
    (cf_S_leaf (cf_S_iload_n (j := 1) (by decide +kernel) rfl))
    (cf_S_leaf (cf_S_callV (d := 2) (idx := 61) (ct_M_load l) sh_M_load rfl (cf_mem 246 (by decide +kernel)) (cf_mem 243 (by decide +kernel)) (cf_mem 244 (by decide +kernel)) (cf_mem 245 (by decide +kernel)) (cf_mem 38 (by decide +kernel)) ⟨⟨by decide +kernel, by decide +kernel⟩, by decide +kernel⟩ ⟨by decide, by decide⟩ (by decide +kernel)))))
  (cf_S_node
   (cf_S_node
    (cf_S_leaf (cf_S_aload_n (j := 0) (by decide +kernel) rfl))
    (cf_S_leaf (cf_S_get (T := cf_T4) (N := 3) (idx := 19) rfl (by decide) cf_la4 (cf_mem 182 (by decide +kernel)) (by decide +kernel))))
   (cf_S_node
    (cf_S_leaf (cf_S_iload_n (j := 2) (by decide +kernel) rfl))
    (cf_S_node
     (cf_S_leaf (cf_S_callV (d := 3) (idx := 65) (ct_M_judge l) sh_M_judge rfl (cf_mem 255 (by decide +kernel)) (cf_mem 252 (by decide +kernel)) (cf_mem 253 (by decide +kernel)) (cf_mem 254 (by decide +kernel)) (cf_mem 38 (by decide +kernel)) ⟨⟨by decide +kernel, by decide +kernel⟩, by decide +kernel⟩ ⟨by decide, by decide⟩ (by decide +kernel)))
     (cf_S_leaf (cf_S_iret (by decide +kernel)))))))
theorem ct_C_verdict (l : Launch) : ∀ as w q, F_C_verdict as w = some q → cf_Ct l (⟨"CulpritFinder", "verdict", "(II)I"⟩ : MethodName) prog_1_method_5_code 3 (some .int) 4 as w q := cf_F_ct (sd_C_verdict l) (by decide)
theorem sh_C_verdict : ∀ as w q, F_C_verdict as w = some q → ∃ (k : Nat) (as' : List cf_AV) (fs : List (Option Nat)), as = .inr k :: as' ∧ as'.length = 2 ∧ cf_shp k = .inr (4, fs) := cf_shV_of rfl
set_option maxRecDepth 100000 in
theorem sd_H_isOlderAncestor (l : Launch) (pc : Nat) : cf_S l (cf_rm 1) prog_2_method_5_code 3 "CulpritFinder$History" pc (T_H_isOlderAncestor pc) := cf_S_node
 (cf_S_node
  (cf_S_node
   (cf_S_node
    (cf_S_leaf (cf_S_aload_n (j := 0) (by decide +kernel) rfl))
    (cf_S_node
     (cf_S_leaf (cf_S_iload_n (j := 1) (by decide +kernel) rfl))
     (cf_S_leaf (cf_S_callV (d := 0) (idx := 28) (ct_H_has l) sh_H_has rfl (cf_mem 202 (by decide +kernel)) (cf_mem 199 (by decide +kernel)) (cf_mem 200 (by decide +kernel)) (cf_mem 201 (by decide +kernel)) (cf_mem 37 (by decide +kernel)) ⟨⟨by decide +kernel, by decide +kernel⟩, by decide +kernel⟩ ⟨by decide, by decide⟩ (by decide +kernel)))))
   (cf_S_node
    (cf_S_leaf (cf_S_ifeq (off := 33) (by decide +kernel) (by decide)))
    (cf_S_node
     (cf_S_leaf (cf_S_aload_n (j := 0) (by decide +kernel) rfl))
     (cf_S_leaf (cf_S_iload_n (j := 2) (by decide +kernel) rfl)))))
  (cf_S_node
   (cf_S_node
    (cf_S_leaf (cf_S_callV (d := 0) (idx := 28) (ct_H_has l) sh_H_has rfl (cf_mem 202 (by decide +kernel)) (cf_mem 199 (by decide +kernel)) (cf_mem 200 (by decide +kernel)) (cf_mem 201 (by decide +kernel)) (cf_mem 37 (by decide +kernel)) ⟨⟨by decide +kernel, by decide +kernel⟩, by decide +kernel⟩ ⟨by decide, by decide⟩ (by decide +kernel)))
    (cf_S_node
     (cf_S_leaf (cf_S_ifeq (off := 25) (by decide +kernel) (by decide)))
     (cf_S_leaf (cf_S_iload_n (j := 1) (by decide +kernel) rfl))))
   (cf_S_node
    (cf_S_leaf (cf_S_iload_n (j := 2) (by decide +kernel) rfl))
    (cf_S_node
     (cf_S_leaf (cf_S_iceq (off := 20) (by decide +kernel) (by decide)))
     (cf_S_leaf (cf_S_aload_n (j := 0) (by decide +kernel) rfl))))))
 (cf_S_node
  (cf_S_node
   (cf_S_node
    (cf_S_leaf (cf_S_get (T := cf_T0) (N := 5) (idx := 15) rfl (by decide) cf_la0 (cf_mem 62 (by decide +kernel)) (by decide +kernel)))
    (cf_S_node
     (cf_S_leaf (cf_S_iload_n (j := 2) (by decide +kernel) rfl))
     (cf_S_leaf (cf_S_iald (by decide +kernel)))))
   (cf_S_node
    (cf_S_leaf (cf_S_iload_n (j := 1) (by decide +kernel) rfl))
    (cf_S_node
     (cf_S_leaf (cf_S_ishr (by decide +kernel)))
     (cf_S_leaf (cf_S_iconst (n := 1) (by decide +kernel) (by decide))))))
  (cf_S_node
   (cf_S_node
    (cf_S_leaf (cf_S_iand (by decide +kernel)))
    (cf_S_node
     (cf_S_leaf (cf_S_ifeq (off := 7) (by decide +kernel) (by decide)))
     (cf_S_leaf (cf_S_iconst (n := 1) (by decide +kernel) (by decide)))))
   (cf_S_node
    (cf_S_leaf (cf_S_goto (off := 4) (by decide +kernel) (by decide)))
    (cf_S_node
     (cf_S_leaf (cf_S_iconst (n := 0) (by decide +kernel) (by decide)))
     (cf_S_leaf (cf_S_iret (by decide +kernel)))))))
theorem ct_H_isOlderAncestor (l : Launch) : ∀ as w q, F_H_isOlderAncestor as w = some q → cf_Ct l (⟨"CulpritFinder$History", "isOlderAncestor", "(II)Z"⟩ : MethodName) prog_2_method_5_code 3 (some .boolean) 1 as w q := cf_F_ct (sd_H_isOlderAncestor l) (by decide)
theorem sh_H_isOlderAncestor : ∀ as w q, F_H_isOlderAncestor as w = some q → ∃ (k : Nat) (as' : List cf_AV) (fs : List (Option Nat)), as = .inr k :: as' ∧ as'.length = 2 ∧ cf_shp k = .inr (0, fs) := cf_shV_of rfl
set_option maxRecDepth 100000 in
theorem sd_R_reset (l : Launch) (pc : Nat) : cf_S l (cf_rm 1) prog_4_method_2_code 1 "CulpritFinder$Reduction" pc (T_R_reset pc) := cf_S_node
 (cf_S_node
  (cf_S_node
   (cf_S_leaf (cf_S_aload_n (j := 0) (by decide +kernel) rfl))
   (cf_S_leaf (cf_S_get (T := cf_T2) (N := 3) (idx := 9) rfl (by decide) cf_la2 (cf_mem 110 (by decide +kernel)) (by decide +kernel))))
  (cf_S_node
   (cf_S_leaf (cf_S_iconst (n := 0) (by decide +kernel) (by decide)))
   (cf_S_leaf (cf_S_callS (d := 0) (idx := 22) (ct_J_fill l) sh_J_fill (cf_mem 286 (by decide +kernel)) (cf_mem 312 (by decide +kernel)) (cf_mem 285 (by decide +kernel)) (cf_mem 43 (by decide +kernel)) ⟨⟨by decide +kernel, by decide +kernel⟩, by decide +kernel⟩ ⟨by decide, by decide⟩ (by decide +kernel)))))
 (cf_S_node
  (cf_S_node
   (cf_S_leaf (cf_S_aload_n (j := 0) (by decide +kernel) rfl))
   (cf_S_leaf (cf_S_iconst (n := -1) (by decide +kernel) (by decide))))
  (cf_S_node
   (cf_S_leaf (cf_S_put (T := cf_T2) (N := 3) (idx := 15) (tT := cf_y2) rfl (by decide) cf_la2 cf_ty2 cf_nm2 rfl (by decide +kernel) (cf_mem 111 (by decide +kernel)) (by decide +kernel)))
   (cf_S_leaf (cf_S_vret (by decide +kernel)))))
theorem ct_R_reset (l : Launch) : ∀ as w q, F_R_reset as w = some q → cf_Ct l (⟨"CulpritFinder$Reduction", "reset", "()V"⟩ : MethodName) prog_4_method_2_code 1 none 1 as w q := cf_F_ct (sd_R_reset l) (by decide)
theorem sh_R_reset : ∀ as w q, F_R_reset as w = some q → ∃ (k : Nat) (as' : List cf_AV) (fs : List (Option Nat)), as = .inr k :: as' ∧ as'.length = 0 ∧ cf_shp k = .inr (2, fs) := cf_shV_of rfl
set_option maxRecDepth 100000 in
theorem sd_S_loseTest (l : Launch) (pc : Nat) : cf_S l (cf_rm 0) prog_5_method_6_code 1 "CulpritFinder$Search" pc (T_S_loseTest pc) := cf_S_node
 (cf_S_node
  (cf_S_leaf (cf_S_aload_n (j := 0) (by decide +kernel) rfl))
  (cf_S_leaf (cf_S_iconst (n := 0) (by decide +kernel) (by decide))))
 (cf_S_node
  (cf_S_leaf (cf_S_putz (T := cf_T3) (N := 17) (idx := 56) (tT := cf_y3) rfl (by decide) cf_la3 cf_ty3 cf_nm3 rfl (by decide +kernel) (cf_mem 143 (by decide +kernel)) (by decide +kernel)))
  (cf_S_leaf (cf_S_vret (by decide +kernel))))
theorem ct_S_loseTest (l : Launch) : ∀ as w q, F_S_loseTest as w = some q → cf_Ct l (⟨"CulpritFinder$Search", "loseTest", "()V"⟩ : MethodName) prog_5_method_6_code 1 none 0 as w q := cf_F_ct (sd_S_loseTest l) (by decide)
theorem sh_S_loseTest : ∀ as w q, F_S_loseTest as w = some q → ∃ (k : Nat) (as' : List cf_AV) (fs : List (Option Nat)), as = .inr k :: as' ∧ as'.length = 0 ∧ cf_shp k = .inr (3, fs) := cf_shV_of rfl
set_option maxRecDepth 100000 in
theorem sd_S_close (l : Launch) (pc : Nat) : cf_S l (cf_rm 2) prog_5_method_3_code 1 "CulpritFinder$Search" pc (T_S_close pc) := cf_S_node
 (cf_S_node
  (cf_S_node
   (cf_S_node
    (cf_S_leaf (cf_S_aload_n (j := 0) (by decide +kernel) rfl))
    (cf_S_node
     (cf_S_leaf (cf_S_get (T := cf_T3) (N := 17) (idx := 22) rfl (by decide) cf_la3 (cf_mem 127 (by decide +kernel)) (by decide +kernel)))
     (cf_S_leaf (cf_S_iconst (n := 0) (by decide +kernel) (by decide)))))
   (cf_S_node
    (cf_S_node
     (cf_S_leaf (cf_S_callS (d := 0) (idx := 77) (ct_J_fill l) sh_J_fill (cf_mem 286 (by decide +kernel)) (cf_mem 307 (by decide +kernel)) (cf_mem 285 (by decide +kernel)) (cf_mem 43 (by decide +kernel)) ⟨⟨by decide +kernel, by decide +kernel⟩, by decide +kernel⟩ ⟨by decide, by decide⟩ (by decide +kernel)))
     (cf_S_leaf (cf_S_aload_n (j := 0) (by decide +kernel) rfl)))
    (cf_S_node
     (cf_S_leaf (cf_S_get (T := cf_T3) (N := 17) (idx := 12) rfl (by decide) cf_la3 (cf_mem 123 (by decide +kernel)) (by decide +kernel)))
     (cf_S_leaf (cf_S_callV (d := 1) (idx := 83) (ct_R_reset l) sh_R_reset rfl (cf_mem 311 (by decide +kernel)) (cf_mem 308 (by decide +kernel)) (cf_mem 309 (by decide +kernel)) (cf_mem 310 (by decide +kernel)) (cf_mem 40 (by decide +kernel)) ⟨⟨by decide +kernel, by decide +kernel⟩, by decide +kernel⟩ ⟨by decide, by decide⟩ (by decide +kernel))))))
  (cf_S_node
   (cf_S_node
    (cf_S_leaf (cf_S_aload_n (j := 0) (by decide +kernel) rfl))
    (cf_S_node
     (cf_S_leaf (cf_S_iconst (n := 0) (by decide +kernel) (by decide)))
     (cf_S_leaf (cf_S_put (T := cf_T3) (N := 17) (idx := 25) (tT := cf_y3) rfl (by decide) cf_la3 cf_ty3 cf_nm3 rfl (by decide +kernel) (cf_mem 128 (by decide +kernel)) (by decide +kernel)))))
   (cf_S_node
    (cf_S_node
     (cf_S_leaf (cf_S_aload_n (j := 0) (by decide +kernel) rfl))
     (cf_S_leaf (cf_S_iconst (n := 0) (by decide +kernel) (by decide))))
    (cf_S_node
     (cf_S_leaf (cf_S_put (T := cf_T3) (N := 17) (idx := 29) (tT := cf_y3) rfl (by decide) cf_la3 cf_ty3 cf_nm3 rfl (by decide +kernel) (cf_mem 130 (by decide +kernel)) (by decide +kernel)))
     (cf_S_leaf (cf_S_aload_n (j := 0) (by decide +kernel) rfl))))))
 (cf_S_node
  (cf_S_node
   (cf_S_node
    (cf_S_leaf (cf_S_iconst (n := 0) (by decide +kernel) (by decide)))
    (cf_S_node
     (cf_S_leaf (cf_S_put (T := cf_T3) (N := 17) (idx := 44) (tT := cf_y3) rfl (by decide) cf_la3 cf_ty3 cf_nm3 rfl (by decide +kernel) (cf_mem 136 (by decide +kernel)) (by decide +kernel)))
     (cf_S_leaf (cf_S_aload_n (j := 0) (by decide +kernel) rfl))))
   (cf_S_node
    (cf_S_node
     (cf_S_leaf (cf_S_iconst (n := 0) (by decide +kernel) (by decide)))
     (cf_S_leaf (cf_S_put (T := cf_T3) (N := 17) (idx := 47) (tT := cf_y3) rfl (by decide) cf_la3 cf_ty3 cf_nm3 rfl (by decide +kernel) (cf_mem 137 (by decide +kernel)) (by decide +kernel))))
    (cf_S_node
     (cf_S_leaf (cf_S_aload_n (j := 0) (by decide +kernel) rfl))
     (cf_S_leaf (cf_S_iconst (n := -1) (by decide +kernel) (by decide))))))
  (cf_S_node
   (cf_S_node
    (cf_S_leaf (cf_S_put (T := cf_T3) (N := 17) (idx := 50) (tT := cf_y3) rfl (by decide) cf_la3 cf_ty3 cf_nm3 rfl (by decide +kernel) (cf_mem 139 (by decide +kernel)) (by decide +kernel)))
    (cf_S_node
     (cf_S_leaf (cf_S_aload_n (j := 0) (by decide +kernel) rfl))
     (cf_S_leaf (cf_S_iconst (n := -1) (by decide +kernel) (by decide)))))
   (cf_S_node
    (cf_S_node
     (cf_S_leaf (cf_S_put (T := cf_T3) (N := 17) (idx := 53) (tT := cf_y3) rfl (by decide) cf_la3 cf_ty3 cf_nm3 rfl (by decide +kernel) (cf_mem 141 (by decide +kernel)) (by decide +kernel)))
     (cf_S_leaf (cf_S_aload_n (j := 0) (by decide +kernel) rfl)))
    (cf_S_node
     (cf_S_leaf (cf_S_callV (d := 0) (idx := 86) (ct_S_loseTest l) sh_S_loseTest rfl (cf_mem 316 (by decide +kernel)) (cf_mem 313 (by decide +kernel)) (cf_mem 314 (by decide +kernel)) (cf_mem 315 (by decide +kernel)) (cf_mem 39 (by decide +kernel)) ⟨⟨by decide +kernel, by decide +kernel⟩, by decide +kernel⟩ ⟨by decide, by decide⟩ (by decide +kernel)))
     (cf_S_leaf (cf_S_vret (by decide +kernel)))))))
theorem ct_S_close (l : Launch) : ∀ as w q, F_S_close as w = some q → cf_Ct l (⟨"CulpritFinder$Search", "close", "()V"⟩ : MethodName) prog_5_method_3_code 1 none 2 as w q := cf_F_ct (sd_S_close l) (by decide)
theorem sh_S_close : ∀ as w q, F_S_close as w = some q → ∃ (k : Nat) (as' : List cf_AV) (fs : List (Option Nat)), as = .inr k :: as' ∧ as'.length = 0 ∧ cf_shp k = .inr (3, fs) := cf_shV_of rfl
set_option maxRecDepth 100000 in
theorem sd_S_planEnds (l : Launch) (pc : Nat) : cf_S l (cf_rm 0) prog_5_method_12_code 1 "CulpritFinder$Search" pc (T_S_planEnds pc) := cf_S_node
 (cf_S_node
  (cf_S_node
   (cf_S_node
    (cf_S_node
     (cf_S_leaf (cf_S_aload_n (j := 0) (by decide +kernel) rfl))
     (cf_S_leaf (cf_S_get (T := cf_T3) (N := 17) (idx := 22) rfl (by decide) cf_la3 (cf_mem 127 (by decide +kernel)) (by decide +kernel))))
    (cf_S_node
     (cf_S_leaf (cf_S_aload_n (j := 0) (by decide +kernel) rfl))
     (cf_S_node
      (cf_S_leaf (cf_S_get (T := cf_T3) (N := 17) (idx := 35) rfl (by decide) cf_la3 (cf_mem 133 (by decide +kernel)) (by decide +kernel)))
      (cf_S_leaf (cf_S_iald (by decide +kernel))))))
   (cf_S_node
    (cf_S_node
     (cf_S_leaf (cf_S_ifne (off := 14) (by decide +kernel) (by decide)))
     (cf_S_node
      (cf_S_leaf (cf_S_aload_n (j := 0) (by decide +kernel) rfl))
      (cf_S_leaf (cf_S_aload_n (j := 0) (by decide +kernel) rfl))))
    (cf_S_node
     (cf_S_leaf (cf_S_get (T := cf_T3) (N := 17) (idx := 35) rfl (by decide) cf_la3 (cf_mem 133 (by decide +kernel)) (by decide +kernel)))
     (cf_S_node
      (cf_S_leaf (cf_S_put (T := cf_T3) (N := 17) (idx := 53) (tT := cf_y3) rfl (by decide) cf_la3 cf_ty3 cf_nm3 rfl (by decide +kernel) (cf_mem 141 (by decide +kernel)) (by decide +kernel)))
      (cf_S_leaf (cf_S_goto (off := 71) (by decide +kernel) (by decide)))))))
  (cf_S_node
   (cf_S_node
    (cf_S_node
     (cf_S_leaf (cf_S_aload_n (j := 0) (by decide +kernel) rfl))
     (cf_S_node
      (cf_S_leaf (cf_S_get (T := cf_T3) (N := 17) (idx := 22) rfl (by decide) cf_la3 (cf_mem 127 (by decide +kernel)) (by decide +kernel)))
      (cf_S_leaf (cf_S_aload_n (j := 0) (by decide +kernel) rfl))))
    (cf_S_node
     (cf_S_leaf (cf_S_get (T := cf_T3) (N := 17) (idx := 35) rfl (by decide) cf_la3 (cf_mem 133 (by decide +kernel)) (by decide +kernel)))
     (cf_S_node
      (cf_S_leaf (cf_S_iald (by decide +kernel)))
      (cf_S_leaf (cf_S_iconst (n := 2) (by decide +kernel) (by decide))))))
   (cf_S_node
    (cf_S_node
     (cf_S_leaf (cf_S_iceq (off := 12) (by decide +kernel) (by decide)))
     (cf_S_node
      (cf_S_leaf (cf_S_aload_n (j := 0) (by decide +kernel) rfl))
      (cf_S_leaf (cf_S_bipush (n := 6) (by decide +kernel) (by decide +kernel)))))
    (cf_S_node
     (cf_S_leaf (cf_S_put (T := cf_T3) (N := 17) (idx := 29) (tT := cf_y3) rfl (by decide) cf_la3 cf_ty3 cf_nm3 rfl (by decide +kernel) (cf_mem 130 (by decide +kernel)) (by decide +kernel)))
     (cf_S_node
      (cf_S_leaf (cf_S_goto (off := 49) (by decide +kernel) (by decide)))
      (cf_S_leaf (cf_S_aload_n (j := 0) (by decide +kernel) rfl)))))))
 (cf_S_node
  (cf_S_node
   (cf_S_node
    (cf_S_node
     (cf_S_leaf (cf_S_get (T := cf_T3) (N := 17) (idx := 22) rfl (by decide) cf_la3 (cf_mem 127 (by decide +kernel)) (by decide +kernel)))
     (cf_S_leaf (cf_S_aload_n (j := 0) (by decide +kernel) rfl)))
    (cf_S_node
     (cf_S_leaf (cf_S_get (T := cf_T3) (N := 17) (idx := 32) rfl (by decide) cf_la3 (cf_mem 132 (by decide +kernel)) (by decide +kernel)))
     (cf_S_node
      (cf_S_leaf (cf_S_iald (by decide +kernel)))
      (cf_S_leaf (cf_S_ifne (off := 14) (by decide +kernel) (by decide))))))
   (cf_S_node
    (cf_S_node
     (cf_S_leaf (cf_S_aload_n (j := 0) (by decide +kernel) rfl))
     (cf_S_node
      (cf_S_leaf (cf_S_aload_n (j := 0) (by decide +kernel) rfl))
      (cf_S_leaf (cf_S_get (T := cf_T3) (N := 17) (idx := 32) rfl (by decide) cf_la3 (cf_mem 132 (by decide +kernel)) (by decide +kernel)))))
    (cf_S_node
     (cf_S_leaf (cf_S_put (T := cf_T3) (N := 17) (idx := 53) (tT := cf_y3) rfl (by decide) cf_la3 cf_ty3 cf_nm3 rfl (by decide +kernel) (cf_mem 141 (by decide +kernel)) (by decide +kernel)))
     (cf_S_node
      (cf_S_leaf (cf_S_goto (off := 26) (by decide +kernel) (by decide)))
      (cf_S_leaf (cf_S_aload_n (j := 0) (by decide +kernel) rfl))))))
  (cf_S_node
   (cf_S_node
    (cf_S_node
     (cf_S_leaf (cf_S_aload_n (j := 0) (by decide +kernel) rfl))
     (cf_S_node
      (cf_S_leaf (cf_S_get (T := cf_T3) (N := 17) (idx := 22) rfl (by decide) cf_la3 (cf_mem 127 (by decide +kernel)) (by decide +kernel)))
      (cf_S_leaf (cf_S_aload_n (j := 0) (by decide +kernel) rfl))))
    (cf_S_node
     (cf_S_leaf (cf_S_get (T := cf_T3) (N := 17) (idx := 32) rfl (by decide) cf_la3 (cf_mem 132 (by decide +kernel)) (by decide +kernel)))
     (cf_S_node
      (cf_S_leaf (cf_S_iald (by decide +kernel)))
      (cf_S_leaf (cf_S_iconst (n := 1) (by decide +kernel) (by decide))))))
   (cf_S_node
    (cf_S_node
     (cf_S_leaf (cf_S_icne (off := 7) (by decide +kernel) (by decide)))
     (cf_S_node
      (cf_S_leaf (cf_S_iconst (n := 2) (by decide +kernel) (by decide)))
      (cf_S_leaf (cf_S_goto (off := 5) (by decide +kernel) (by decide)))))
    (cf_S_node
     (cf_S_leaf (cf_S_bipush (n := 6) (by decide +kernel) (by decide +kernel)))
     (cf_S_node
      (cf_S_leaf (cf_S_put (T := cf_T3) (N := 17) (idx := 29) (tT := cf_y3) rfl (by decide) cf_la3 cf_ty3 cf_nm3 rfl (by decide +kernel) (cf_mem 130 (by decide +kernel)) (by decide +kernel)))
      (cf_S_leaf (cf_S_vret (by decide +kernel))))))))
theorem ct_S_planEnds (l : Launch) : ∀ as w q, F_S_planEnds as w = some q → cf_Ct l (⟨"CulpritFinder$Search", "planEnds", "()V"⟩ : MethodName) prog_5_method_12_code 1 none 0 as w q := cf_F_ct (sd_S_planEnds l) (by decide)
theorem sh_S_planEnds : ∀ as w q, F_S_planEnds as w = some q → ∃ (k : Nat) (as' : List cf_AV) (fs : List (Option Nat)), as = .inr k :: as' ∧ as'.length = 0 ∧ cf_shp k = .inr (3, fs) := cf_shV_of rfl
set_option maxRecDepth 100000 in
theorem sd_J_bitCount (l : Launch) (pc : Nat) : cf_S l (cf_rm 0) prog_8_method_49_code 1 "java/lang/Integer" pc (T_J_bitCount pc) := cf_S_node
 (cf_S_node
  (cf_S_node
   (cf_S_node
    (cf_S_node
     (cf_S_leaf (cf_S_iload_n (j := 0) (by decide +kernel) rfl))
     (cf_S_leaf (cf_S_iload_n (j := 0) (by decide +kernel) rfl)))
    (cf_S_node
     (cf_S_leaf (cf_S_iconst (n := 1) (by decide +kernel) (by decide)))
     (cf_S_node
      (cf_S_leaf (cf_S_iushr (by decide +kernel)))
      (cf_S_leaf (cf_S_ldcw (i := 265) (by decide +kernel) (cf_mem 336 (by decide +kernel)))))))
   (cf_S_node
    (cf_S_node
     (cf_S_leaf (cf_S_iand (by decide +kernel)))
     (cf_S_leaf (cf_S_isub (by decide +kernel))))
    (cf_S_node
     (cf_S_leaf (cf_S_istore_n (j := 0) (by decide +kernel) rfl (by decide)))
     (cf_S_node
      (cf_S_leaf (cf_S_iload_n (j := 0) (by decide +kernel) rfl))
      (cf_S_leaf (cf_S_ldcw (i := 266) (by decide +kernel) (cf_mem 337 (by decide +kernel))))))))
  (cf_S_node
   (cf_S_node
    (cf_S_node
     (cf_S_leaf (cf_S_iand (by decide +kernel)))
     (cf_S_leaf (cf_S_iload_n (j := 0) (by decide +kernel) rfl)))
    (cf_S_node
     (cf_S_leaf (cf_S_iconst (n := 2) (by decide +kernel) (by decide)))
     (cf_S_node
      (cf_S_leaf (cf_S_iushr (by decide +kernel)))
      (cf_S_leaf (cf_S_ldcw (i := 266) (by decide +kernel) (cf_mem 337 (by decide +kernel)))))))
   (cf_S_node
    (cf_S_node
     (cf_S_leaf (cf_S_iand (by decide +kernel)))
     (cf_S_node
      (cf_S_leaf (cf_S_iadd (by decide +kernel)))
      (cf_S_leaf (cf_S_istore_n (j := 0) (by decide +kernel) rfl (by decide)))))
    (cf_S_node
     (cf_S_leaf (cf_S_iload_n (j := 0) (by decide +kernel) rfl))
     (cf_S_node
      (cf_S_leaf (cf_S_iload_n (j := 0) (by decide +kernel) rfl))
      (cf_S_leaf (cf_S_iconst (n := 4) (by decide +kernel) (by decide))))))))
 (cf_S_node
  (cf_S_node
   (cf_S_node
    (cf_S_node
     (cf_S_leaf (cf_S_iushr (by decide +kernel)))
     (cf_S_leaf (cf_S_iadd (by decide +kernel))))
    (cf_S_node
     (cf_S_leaf (cf_S_ldcw (i := 267) (by decide +kernel) (cf_mem 338 (by decide +kernel))))
     (cf_S_node
      (cf_S_leaf (cf_S_iand (by decide +kernel)))
      (cf_S_leaf (cf_S_istore_n (j := 0) (by decide +kernel) rfl (by decide))))))
   (cf_S_node
    (cf_S_node
     (cf_S_leaf (cf_S_iload_n (j := 0) (by decide +kernel) rfl))
     (cf_S_leaf (cf_S_iload_n (j := 0) (by decide +kernel) rfl)))
    (cf_S_node
     (cf_S_leaf (cf_S_bipush (n := 8) (by decide +kernel) (by decide +kernel)))
     (cf_S_node
      (cf_S_leaf (cf_S_iushr (by decide +kernel)))
      (cf_S_leaf (cf_S_iadd (by decide +kernel)))))))
  (cf_S_node
   (cf_S_node
    (cf_S_node
     (cf_S_leaf (cf_S_istore_n (j := 0) (by decide +kernel) rfl (by decide)))
     (cf_S_leaf (cf_S_iload_n (j := 0) (by decide +kernel) rfl)))
    (cf_S_node
     (cf_S_leaf (cf_S_iload_n (j := 0) (by decide +kernel) rfl))
     (cf_S_node
      (cf_S_leaf (cf_S_bipush (n := 16) (by decide +kernel) (by decide +kernel)))
      (cf_S_leaf (cf_S_iushr (by decide +kernel))))))
   (cf_S_node
    (cf_S_node
     (cf_S_leaf (cf_S_iadd (by decide +kernel)))
     (cf_S_node
      (cf_S_leaf (cf_S_istore_n (j := 0) (by decide +kernel) rfl (by decide)))
      (cf_S_leaf (cf_S_iload_n (j := 0) (by decide +kernel) rfl))))
    (cf_S_node
     (cf_S_leaf (cf_S_bipush (n := 63) (by decide +kernel) (by decide +kernel)))
     (cf_S_node
      (cf_S_leaf (cf_S_iand (by decide +kernel)))
      (cf_S_leaf (cf_S_iret (by decide +kernel))))))))
theorem ct_J_bitCount (l : Launch) : ∀ as w q, F_J_bitCount as w = some q → cf_Ct l (⟨"java/lang/Integer", "bitCount", "(I)I"⟩ : MethodName) prog_8_method_49_code 1 (some .int) 0 as w q := cf_F_ct (sd_J_bitCount l) (by decide)
theorem sh_J_bitCount : ∀ as w q, F_J_bitCount as w = some q → as.length = 1 := cf_shS_of
