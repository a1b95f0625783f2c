set_option maxRecDepth 100000 in
theorem sd_S_plan (l : Launch) (pc : Nat) : cf_S l (cf_rm 4) prog_5_method_11_code 1 "CulpritFinder$Search" pc (T_S_plan pc) := cf_S_node
 (cf_S_node
  (cf_S_node
   (cf_S_node
    (cf_S_leaf (cf_S_aload_n (j := 0) (by decide +kernel) rfl))
    (cf_S_leaf (cf_S_iconst (n := -1) (by decide +kernel) (by decide))))
   (cf_S_node
    (cf_S_leaf (cf_S_put (T := cf_T3) (N := 17) (idx := 53) (tT := cf_y3) rfl (by decide) cf_la3 cf_ty3 cf_nm3 rfl (by decide +kernel) (cf_mem 141 (by decide +kernel)) (by decide +kernel)))
    (cf_S_node
     (cf_S_leaf (cf_S_aload_n (j := 0) (by decide +kernel) rfl))
     (cf_S_leaf (cf_S_get (T := cf_T3) (N := 17) (idx := 29) rfl (by decide) cf_la3 (cf_mem 130 (by decide +kernel)) (by decide +kernel))))))
  (cf_S_node
   (cf_S_node
    (cf_S_leaf (cf_S_iconst (n := 1) (by decide +kernel) (by decide)))
    (cf_S_node
     (cf_S_leaf (cf_S_icne (off := 7) (by decide +kernel) (by decide)))
     (cf_S_leaf (cf_S_aload_n (j := 0) (by decide +kernel) rfl))))
   (cf_S_node
    (cf_S_leaf (cf_S_callV (d := 0) (idx := 129) (ct_S_planEnds l) sh_S_planEnds rfl (cf_mem 324 (by decide +kernel)) (cf_mem 321 (by decide +kernel)) (cf_mem 323 (by decide +kernel)) (cf_mem 7 (by decide +kernel)) (cf_mem 39 (by decide +kernel)) ⟨⟨by decide +kernel, by decide +kernel⟩, by decide +kernel⟩ ⟨by decide, by decide⟩ (by decide +kernel)))
    (cf_S_node
     (cf_S_leaf (cf_S_aload_n (j := 0) (by decide +kernel) rfl))
     (cf_S_leaf (cf_S_get (T := cf_T3) (N := 17) (idx := 29) rfl (by decide) cf_la3 (cf_mem 130 (by decide +kernel)) (by decide +kernel)))))))
 (cf_S_node
  (cf_S_node
   (cf_S_node
    (cf_S_leaf (cf_S_iconst (n := 2) (by decide +kernel) (by decide)))
    (cf_S_leaf (cf_S_icne (off := 7) (by decide +kernel) (by decide))))
   (cf_S_node
    (cf_S_leaf (cf_S_aload_n (j := 0) (by decide +kernel) rfl))
    (cf_S_node
     (cf_S_leaf (cf_S_callV (d := 3) (idx := 132) (ct_S_planHalving l) sh_S_planHalving rfl (cf_mem 328 (by decide +kernel)) (cf_mem 325 (by decide +kernel)) (cf_mem 327 (by decide +kernel)) (cf_mem 8 (by decide +kernel)) (cf_mem 39 (by decide +kernel)) ⟨⟨by decide +kernel, by decide +kernel⟩, by decide +kernel⟩ ⟨by decide, by decide⟩ (by decide +kernel)))
     (cf_S_leaf (cf_S_aload_n (j := 0) (by decide +kernel) rfl)))))
  (cf_S_node
   (cf_S_node
    (cf_S_leaf (cf_S_get (T := cf_T3) (N := 17) (idx := 29) rfl (by decide) cf_la3 (cf_mem 130 (by decide +kernel)) (by decide +kernel)))
    (cf_S_node
     (cf_S_leaf (cf_S_iconst (n := 3) (by decide +kernel) (by decide)))
     (cf_S_leaf (cf_S_icne (off := 7) (by decide +kernel) (by decide)))))
   (cf_S_node
    (cf_S_leaf (cf_S_aload_n (j := 0) (by decide +kernel) rfl))
    (cf_S_node
     (cf_S_leaf (cf_S_callV (d := 3) (idx := 135) (ct_S_planReducing l) sh_S_planReducing rfl (cf_mem 354 (by decide +kernel)) (cf_mem 351 (by decide +kernel)) (cf_mem 353 (by decide +kernel)) (cf_mem 10 (by decide +kernel)) (cf_mem 39 (by decide +kernel)) ⟨⟨by decide +kernel, by decide +kernel⟩, by decide +kernel⟩ ⟨by decide, by decide⟩ (by decide +kernel)))
     (cf_S_leaf (cf_S_vret (by decide +kernel)))))))
theorem ct_S_plan (l : Launch) : ∀ as w q, F_S_plan as w = some q → cf_Ct l (⟨"CulpritFinder$Search", "plan", "()V"⟩ : MethodName) prog_5_method_11_code 1 none 4 as w q := cf_F_ct (sd_S_plan l) (by decide)
theorem sh_S_plan : ∀ as w q, F_S_plan as w = some q → ∃ (k : Nat) (as' : List cf_AV) (fs : List (Option Nat)), as = .inr k :: as' ∧ as'.length = 0 ∧ cf_shp k = .inr (3, fs) := cf_shV_of rfl
set_option maxRecDepth 100000 in
theorem sd_S_open (l : Launch) (pc : Nat) : cf_S l (cf_rm 5) prog_5_method_2_code 4 "CulpritFinder$Search" pc (T_S_open pc) := cf_S_node
 (cf_S_node
  (cf_S_node
   (cf_S_node
    (cf_S_leaf (cf_S_aload_n (j := 0) (by decide +kernel) rfl))
    (cf_S_leaf (cf_S_callV (d := 2) (idx := 71) (ct_S_close l) sh_S_close rfl (cf_mem 306 (by decide +kernel)) (cf_mem 303 (by decide +kernel)) (cf_mem 304 (by decide +kernel)) (cf_mem 305 (by decide +kernel)) (cf_mem 39 (by decide +kernel)) ⟨⟨by decide +kernel, by decide +kernel⟩, by decide +kernel⟩ ⟨by decide, by decide⟩ (by decide +kernel))))
   (cf_S_node
    (cf_S_leaf (cf_S_aload_n (j := 0) (by decide +kernel) rfl))
    (cf_S_leaf (cf_S_iload_n (j := 1) (by decide +kernel) rfl))))
  (cf_S_node
   (cf_S_node
    (cf_S_leaf (cf_S_put (T := cf_T3) (N := 17) (idx := 32) (tT := cf_y3) rfl (by decide) cf_la3 cf_ty3 cf_nm3 rfl (by decide +kernel) (cf_mem 132 (by decide +kernel)) (by decide +kernel)))
    (cf_S_leaf (cf_S_aload_n (j := 0) (by decide +kernel) rfl)))
   (cf_S_node
    (cf_S_leaf (cf_S_iload_n (j := 2) (by decide +kernel) rfl))
    (cf_S_leaf (cf_S_put (T := cf_T3) (N := 17) (idx := 35) (tT := cf_y3) rfl (by decide) cf_la3 cf_ty3 cf_nm3 rfl (by decide +kernel) (cf_mem 133 (by decide +kernel)) (by decide +kernel))))))
 (cf_S_node
  (cf_S_node
   (cf_S_node
    (cf_S_leaf (cf_S_aload_n (j := 0) (by decide +kernel) rfl))
    (cf_S_leaf (cf_S_iload_n (j := 3) (by decide +kernel) rfl)))
   (cf_S_node
    (cf_S_leaf (cf_S_put (T := cf_T3) (N := 17) (idx := 38) (tT := cf_y3) rfl (by decide) cf_la3 cf_ty3 cf_nm3 rfl (by decide +kernel) (cf_mem 134 (by decide +kernel)) (by decide +kernel)))
    (cf_S_leaf (cf_S_aload_n (j := 0) (by decide +kernel) rfl))))
  (cf_S_node
   (cf_S_node
    (cf_S_leaf (cf_S_iconst (n := 1) (by decide +kernel) (by decide)))
    (cf_S_leaf (cf_S_put (T := cf_T3) (N := 17) (idx := 29) (tT := cf_y3) rfl (by decide) cf_la3 cf_ty3 cf_nm3 rfl (by decide +kernel) (cf_mem 130 (by decide +kernel)) (by decide +kernel))))
   (cf_S_node
    (cf_S_leaf (cf_S_aload_n (j := 0) (by decide +kernel) rfl))
    (cf_S_node
     (cf_S_leaf (cf_S_callV (d := 4) (idx := 74) (ct_S_plan l) sh_S_plan rfl (cf_mem 320 (by decide +kernel)) (cf_mem 317 (by decide +kernel)) (cf_mem 319 (by decide +kernel)) (cf_mem 6 (by decide +kernel)) (cf_mem 39 (by decide +kernel)) ⟨⟨by decide +kernel, by decide +kernel⟩, by decide +kernel⟩ ⟨by decide, by decide⟩ (by decide +kernel)))
     (cf_S_leaf (cf_S_vret (by decide +kernel)))))))
theorem ct_S_open (l : Launch) : ∀ as w q, F_S_open as w = some q → cf_Ct l (⟨"CulpritFinder$Search", "open", "(III)V"⟩ : MethodName) prog_5_method_2_code 4 none 5 as w q := cf_F_ct (sd_S_open l) (by decide)
theorem sh_S_open : ∀ as w q, F_S_open as w = some q → ∃ (k : Nat) (as' : List cf_AV) (fs : List (Option Nat)), as = .inr k :: as' ∧ as'.length = 3 ∧ cf_shp k = .inr (3, fs) := cf_shV_of rfl
set_option maxRecDepth 100000 in
theorem sd_C_begin (l : Launch) (pc : Nat) : cf_S l (cf_rm 6) prog_1_method_6_code 4 "CulpritFinder" pc (T_C_begin pc) := cf_S_node
 (cf_S_node
  (cf_S_node
   (cf_S_node
    (cf_S_leaf (cf_S_aload_n (j := 0) (by decide +kernel) rfl))
    (cf_S_leaf (cf_S_get (T := cf_T4) (N := 3) (idx := 12) rfl (by decide) cf_la4 (cf_mem 181 (by decide +kernel)) (by decide +kernel))))
   (cf_S_node
    (cf_S_leaf (cf_S_iload_n (j := 1) (by decide +kernel) rfl))
    (cf_S_leaf (cf_S_iload_n (j := 2) (by decide +kernel) rfl))))
  (cf_S_node
   (cf_S_node
    (cf_S_leaf (cf_S_callV (d := 1) (idx := 69) (ct_H_isOlderAncestor l) sh_H_isOlderAncestor rfl (cf_mem 298 (by decide +kernel)) (cf_mem 295 (by decide +kernel)) (cf_mem 296 (by decide +kernel)) (cf_mem 297 (by decide +kernel)) (cf_mem 37 (by decide +kernel)) ⟨⟨by decide +kernel, by decide +kernel⟩, by decide +kernel⟩ ⟨by decide, by decide⟩ (by decide +kernel)))
    (cf_S_leaf (cf_S_ifne (off := 5) (by decide +kernel) (by decide))))
   (cf_S_node
    (cf_S_leaf (cf_S_iconst (n := 0) (by decide +kernel) (by decide)))
    (cf_S_leaf (cf_S_iret (by decide +kernel))))))
 (cf_S_node
  (cf_S_node
   (cf_S_node
    (cf_S_leaf (cf_S_aload_n (j := 0) (by decide +kernel) rfl))
    (cf_S_leaf (cf_S_get (T := cf_T4) (N := 3) (idx := 28) rfl (by decide) cf_la4 (cf_mem 183 (by decide +kernel)) (by decide +kernel))))
   (cf_S_node
    (cf_S_leaf (cf_S_iload_n (j := 1) (by decide +kernel) rfl))
    (cf_S_leaf (cf_S_iload_n (j := 2) (by decide +kernel) rfl))))
  (cf_S_node
   (cf_S_node
    (cf_S_leaf (cf_S_iload_n (j := 3) (by decide +kernel) rfl))
    (cf_S_leaf (cf_S_callV (d := 5) (idx := 72) (ct_S_open l) sh_S_open rfl (cf_mem 302 (by decide +kernel)) (cf_mem 299 (by decide +kernel)) (cf_mem 300 (by decide +kernel)) (cf_mem 301 (by decide +kernel)) (cf_mem 39 (by decide +kernel)) ⟨⟨by decide +kernel, by decide +kernel⟩, by decide +kernel⟩ ⟨by decide, by decide⟩ (by decide +kernel))))
   (cf_S_node
    (cf_S_leaf (cf_S_iconst (n := 1) (by decide +kernel) (by decide)))
    (cf_S_leaf (cf_S_iret (by decide +kernel))))))
theorem ct_C_begin (l : Launch) : ∀ as w q, F_C_begin as w = some q → cf_Ct l (⟨"CulpritFinder", "begin", "(III)Z"⟩ : MethodName) prog_1_method_6_code 4 (some .boolean) 6 as w q := cf_F_ct (sd_C_begin l) (by decide)
theorem sh_C_begin : ∀ as w q, F_C_begin as w = some q → ∃ (k : Nat) (as' : List cf_AV) (fs : List (Option Nat)), as = .inr k :: as' ∧ as'.length = 3 ∧ cf_shp k = .inr (4, fs) := cf_shV_of rfl
set_option maxRecDepth 100000 in
theorem sd_C_end (l : Launch) (pc : Nat) : cf_S l (cf_rm 3) prog_1_method_7_code 1 "CulpritFinder" pc (T_C_end pc) := cf_S_node
 (cf_S_node
  (cf_S_node
   (cf_S_leaf (cf_S_aload_n (j := 0) (by decide +kernel) rfl))
   (cf_S_leaf (cf_S_get (T := cf_T4) (N := 3) (idx := 28) rfl (by decide) cf_la4 (cf_mem 183 (by decide +kernel)) (by decide +kernel))))
  (cf_S_node
   (cf_S_leaf (cf_S_getN (T := cf_T3) (N := 17) (host := "CulpritFinder") (idx := 47) rfl (by decide) cf_la3 (cf_mem 131 (by decide +kernel)) (by decide +kernel)))
   (cf_S_node
    (cf_S_leaf (cf_S_ifne (off := 5) (by decide +kernel) (by decide)))
    (cf_S_leaf (cf_S_iconst (n := 0) (by decide +kernel) (by decide))))))
 (cf_S_node
  (cf_S_node
   (cf_S_leaf (cf_S_iret (by decide +kernel)))
   (cf_S_node
    (cf_S_leaf (cf_S_aload_n (j := 0) (by decide +kernel) rfl))
    (cf_S_leaf (cf_S_get (T := cf_T4) (N := 3) (idx := 28) rfl (by decide) cf_la4 (cf_mem 183 (by decide +kernel)) (by decide +kernel)))))
  (cf_S_node
   (cf_S_leaf (cf_S_callV (d := 2) (idx := 75) (ct_S_close l) sh_S_close rfl (cf_mem 306 (by decide +kernel)) (cf_mem 381 (by decide +kernel)) (cf_mem 304 (by decide +kernel)) (cf_mem 305 (by decide +kernel)) (cf_mem 39 (by decide +kernel)) ⟨⟨by decide +kernel, by decide +kernel⟩, by decide +kernel⟩ ⟨by decide, by decide⟩ (by decide +kernel)))
   (cf_S_node
    (cf_S_leaf (cf_S_iconst (n := 1) (by decide +kernel) (by decide)))
    (cf_S_leaf (cf_S_iret (by decide +kernel))))))
theorem ct_C_end (l : Launch) : ∀ as w q, F_C_end as w = some q → cf_Ct l (⟨"CulpritFinder", "end", "()Z"⟩ : MethodName) prog_1_method_7_code 1 (some .boolean) 3 as w q := cf_F_ct (sd_C_end l) (by decide)
theorem sh_C_end : ∀ as w q, F_C_end as w = some q → ∃ (k : Nat) (as' : List cf_AV) (fs : List (Option Nat)), as = .inr k :: as' ∧ as'.length = 0 ∧ cf_shp k = .inr (4, fs) := cf_shV_of rfl
set_option maxRecDepth 100000 in
theorem sd_C_next (l : Launch) (pc : Nat) : cf_S l (cf_rm 0) prog_1_method_8_code 1 "CulpritFinder" pc (T_C_next pc) := cf_S_node
 (cf_S_node
  (cf_S_leaf (cf_S_aload_n (j := 0) (by decide +kernel) rfl))
  (cf_S_leaf (cf_S_get (T := cf_T4) (N := 3) (idx := 28) rfl (by decide) cf_la4 (cf_mem 183 (by decide +kernel)) (by decide +kernel))))
 (cf_S_node
  (cf_S_leaf (cf_S_getN (T := cf_T3) (N := 17) (host := "CulpritFinder") (idx := 78) rfl (by decide) cf_la3 (cf_mem 142 (by decide +kernel)) (by decide +kernel)))
  (cf_S_leaf (cf_S_iret (by decide +kernel))))
theorem ct_C_next (l : Launch) : ∀ as w q, F_C_next as w = some q → cf_Ct l (⟨"CulpritFinder", "next", "()I"⟩ : MethodName) prog_1_method_8_code 1 (some .int) 0 as w q := cf_F_ct (sd_C_next l) (by decide)
theorem sh_C_next : ∀ as w q, F_C_next as w = some q → ∃ (k : Nat) (as' : List cf_AV) (fs : List (Option Nat)), as = .inr k :: as' ∧ as'.length = 0 ∧ cf_shp k = .inr (4, fs) := cf_shV_of rfl
set_option maxRecDepth 100000 in
theorem sd_S_startTest (l : Launch) (pc : Nat) : cf_S l (cf_rm 0) prog_5_method_4_code 1 "CulpritFinder$Search" pc (T_S_startTest pc) := cf_S_node
 (cf_S_node
  (cf_S_node
   (cf_S_node
    (cf_S_leaf (cf_S_aload_n (j := 0) (by decide +kernel) rfl))
    (cf_S_leaf (cf_S_get (T := cf_T3) (N := 17) (idx := 53) rfl (by decide) cf_la3 (cf_mem 141 (by decide +kernel)) (by decide +kernel))))
   (cf_S_node
    (cf_S_leaf (cf_S_iconst (n := -1) (by decide +kernel) (by decide)))
    (cf_S_node
     (cf_S_leaf (cf_S_iceq (off := 10) (by decide +kernel) (by decide)))
     (cf_S_leaf (cf_S_aload_n (j := 0) (by decide +kernel) rfl)))))
  (cf_S_node
   (cf_S_node
    (cf_S_leaf (cf_S_get (T := cf_T3) (N := 17) (idx := 56) rfl (by decide) cf_la3 (cf_mem 143 (by decide +kernel)) (by decide +kernel)))
    (cf_S_leaf (cf_S_ifeq (off := 5) (by decide +kernel) (by decide))))
   (cf_S_node
    (cf_S_leaf (cf_S_iconst (n := 0) (by decide +kernel) (by decide)))
    (cf_S_node
     (cf_S_leaf (cf_S_iret (by decide +kernel)))
     (cf_S_leaf (cf_S_aload_n (j := 0) (by decide +kernel) rfl))))))
 (cf_S_node
  (cf_S_node
   (cf_S_node
    (cf_S_leaf (cf_S_iconst (n := 1) (by decide +kernel) (by decide)))
    (cf_S_leaf (cf_S_putz (T := cf_T3) (N := 17) (idx := 56) (tT := cf_y3) rfl (by decide) cf_la3 cf_ty3 cf_nm3 rfl (by decide +kernel) (cf_mem 143 (by decide +kernel)) (by decide +kernel))))
   (cf_S_node
    (cf_S_leaf (cf_S_aload_n (j := 0) (by decide +kernel) rfl))
    (cf_S_node
     (cf_S_leaf (cf_S_dup (by decide +kernel)))
     (cf_S_leaf (cf_S_get (T := cf_T3) (N := 17) (idx := 60) rfl (by decide) cf_la3 (cf_mem 144 (by decide +kernel)) (by decide +kernel))))))
  (cf_S_node
   (cf_S_node
    (cf_S_leaf (cf_S_iconst (n := 1) (by decide +kernel) (by decide)))
    (cf_S_leaf (cf_S_iadd (by decide +kernel))))
   (cf_S_node
    (cf_S_leaf (cf_S_put (T := cf_T3) (N := 17) (idx := 60) (tT := cf_y3) rfl (by decide) cf_la3 cf_ty3 cf_nm3 rfl (by decide +kernel) (cf_mem 144 (by decide +kernel)) (by decide +kernel)))
    (cf_S_node
     (cf_S_leaf (cf_S_iconst (n := 1) (by decide +kernel) (by decide)))
     (cf_S_leaf (cf_S_iret (by decide +kernel)))))))
theorem ct_S_startTest (l : Launch) : ∀ as w q, F_S_startTest as w = some q → cf_Ct l (⟨"CulpritFinder$Search", "startTest", "()Z"⟩ : MethodName) prog_5_method_4_code 1 (some .boolean) 0 as w q := cf_F_ct (sd_S_startTest l) (by decide)
theorem sh_S_startTest : ∀ as w q, F_S_startTest as w = some q → ∃ (k : Nat) (as' : List cf_AV) (fs : List (Option Nat)), as = .inr k :: as' ∧ as'.length = 0 ∧ cf_shp k = .inr (3, fs) := cf_shV_of rfl
set_option maxRecDepth 100000 in
theorem sd_C_start (l : Launch) (pc : Nat) : cf_S l (cf_rm 1) prog_1_method_9_code 1 "CulpritFinder" pc (T_C_start pc) := cf_S_node
 (cf_S_node
  (cf_S_leaf (cf_S_aload_n (j := 0) (by decide +kernel) rfl))
  (cf_S_leaf (cf_S_get (T := cf_T4) (N := 3) (idx := 28) rfl (by decide) cf_la4 (cf_mem 183 (by decide +kernel)) (by decide +kernel))))
 (cf_S_node
  (cf_S_leaf (cf_S_callV (d := 0) (idx := 81) (ct_S_startTest l) sh_S_startTest rfl (cf_mem 393 (by decide +kernel)) (cf_mem 390 (by decide +kernel)) (cf_mem 391 (by decide +kernel)) (cf_mem 392 (by decide +kernel)) (cf_mem 39 (by decide +kernel)) ⟨⟨by decide +kernel, by decide +kernel⟩, by decide +kernel⟩ ⟨by decide, by decide⟩ (by decide +kernel)))
  (cf_S_leaf (cf_S_iret (by decide +kernel))))
theorem ct_C_start (l : Launch) : ∀ as w q, F_C_start as w = some q → cf_Ct l (⟨"CulpritFinder", "start", "()Z"⟩ : MethodName) prog_1_method_9_code 1 (some .boolean) 1 as w q := cf_F_ct (sd_C_start l) (by decide)
theorem sh_C_start : ∀ as w q, F_C_start as w = some q → ∃ (k : Nat) (as' : List cf_AV) (fs : List (Option Nat)), as = .inr k :: as' ∧ as'.length = 0 ∧ cf_shp k = .inr (4, fs) := cf_shV_of rfl
set_option maxRecDepth 100000 in
theorem sd_S_judgeUpcoming (l : Launch) (pc : Nat) : cf_S l (cf_rm 4) prog_5_method_9_code 1 "CulpritFinder$Search" pc (T_S_judgeUpcoming pc) := cf_S_node
 (cf_S_node
  (cf_S_node
   (cf_S_node
    (cf_S_node
     (cf_S_leaf (cf_S_aload_n (j := 0) (by decide +kernel) rfl))
     (cf_S_leaf (cf_S_get (T := cf_T3) (N := 17) (idx := 53) rfl (by decide) cf_la3 (cf_mem 141 (by decide +kernel)) (by decide +kernel))))
    (cf_S_node
     (cf_S_leaf (cf_S_sipush (n := 1000) (by decide +kernel) (by decide +kernel)))
     (cf_S_node
      (cf_S_leaf (cf_S_iclt (off := 52) (by decide +kernel) (by decide)))
      (cf_S_leaf (cf_S_aload_n (j := 0) (by decide +kernel) rfl)))))
   (cf_S_node
    (cf_S_node
     (cf_S_leaf (cf_S_get (T := cf_T3) (N := 17) (idx := 67) rfl (by decide) cf_la3 (cf_mem 122 (by decide +kernel)) (by decide +kernel)))
     (cf_S_leaf (cf_S_aload_n (j := 0) (by decide +kernel) rfl)))
    (cf_S_node
     (cf_S_leaf (cf_S_get (T := cf_T3) (N := 17) (idx := 63) rfl (by decide) cf_la3 (cf_mem 121 (by decide +kernel)) (by decide +kernel)))
     (cf_S_node
      (cf_S_leaf (cf_S_aload_n (j := 0) (by decide +kernel) rfl))
      (cf_S_leaf (cf_S_get (T := cf_T3) (N := 17) (idx := 63) rfl (by decide) cf_la3 (cf_mem 121 (by decide +kernel)) (by decide +kernel)))))))
  (cf_S_node
   (cf_S_node
    (cf_S_node
     (cf_S_leaf (cf_S_getN (T := cf_T0) (N := 5) (host := "CulpritFinder") (idx := 112) rfl (by decide) cf_la0 (cf_mem 61 (by decide +kernel)) (by decide +kernel)))
     (cf_S_leaf (cf_S_aload_n (j := 0) (by decide +kernel) rfl)))
    (cf_S_node
     (cf_S_leaf (cf_S_get (T := cf_T3) (N := 17) (idx := 50) rfl (by decide) cf_la3 (cf_mem 139 (by decide +kernel)) (by decide +kernel)))
     (cf_S_node
      (cf_S_leaf (cf_S_iald (by decide +kernel)))
      (cf_S_leaf (cf_S_callV (d := 2) (idx := 115) (ct_M_load l) sh_M_load rfl (cf_mem 246 (by decide +kernel)) (cf_mem 406 (by decide +kernel)) (cf_mem 244 (by decide +kernel)) (cf_mem 245 (by decide +kernel)) (cf_mem 38 (by decide +kernel)) ⟨⟨by decide +kernel, by decide +kernel⟩, by decide +kernel⟩ ⟨by decide, by decide⟩ (by decide +kernel))))))
   (cf_S_node
    (cf_S_node
     (cf_S_leaf (cf_S_aload_n (j := 0) (by decide +kernel) rfl))
     (cf_S_leaf (cf_S_get (T := cf_T3) (N := 17) (idx := 67) rfl (by decide) cf_la3 (cf_mem 122 (by decide +kernel)) (by decide +kernel))))
    (cf_S_node
     (cf_S_leaf (cf_S_aload_n (j := 0) (by decide +kernel) rfl))
     (cf_S_node
      (cf_S_leaf (cf_S_get (T := cf_T3) (N := 17) (idx := 63) rfl (by decide) cf_la3 (cf_mem 121 (by decide +kernel)) (by decide +kernel)))
      (cf_S_leaf (cf_S_aload_n (j := 0) (by decide +kernel) rfl)))))))
 (cf_S_node
  (cf_S_node
   (cf_S_node
    (cf_S_node
     (cf_S_leaf (cf_S_get (T := cf_T3) (N := 17) (idx := 50) rfl (by decide) cf_la3 (cf_mem 139 (by decide +kernel)) (by decide +kernel)))
     (cf_S_leaf (cf_S_aload_n (j := 0) (by decide +kernel) rfl)))
    (cf_S_node
     (cf_S_leaf (cf_S_get (T := cf_T3) (N := 17) (idx := 53) rfl (by decide) cf_la3 (cf_mem 141 (by decide +kernel)) (by decide +kernel)))
     (cf_S_node
      (cf_S_leaf (cf_S_sipush (n := 1000) (by decide +kernel) (by decide +kernel)))
      (cf_S_leaf (cf_S_isub (by decide +kernel))))))
   (cf_S_node
    (cf_S_node
     (cf_S_leaf (cf_S_callV (d := 1) (idx := 121) (ct_M_loadLines l) sh_M_loadLines rfl (cf_mem 250 (by decide +kernel)) (cf_mem 407 (by decide +kernel)) (cf_mem 248 (by decide +kernel)) (cf_mem 249 (by decide +kernel)) (cf_mem 38 (by decide +kernel)) ⟨⟨by decide +kernel, by decide +kernel⟩, by decide +kernel⟩ ⟨by decide, by decide⟩ (by decide +kernel)))
     (cf_S_leaf (cf_S_goto (off := 18) (by decide +kernel) (by decide))))
    (cf_S_node
     (cf_S_leaf (cf_S_aload_n (j := 0) (by decide +kernel) rfl))
     (cf_S_node
      (cf_S_leaf (cf_S_get (T := cf_T3) (N := 17) (idx := 67) rfl (by decide) cf_la3 (cf_mem 122 (by decide +kernel)) (by decide +kernel)))
      (cf_S_leaf (cf_S_aload_n (j := 0) (by decide +kernel) rfl))))))
  (cf_S_node
   (cf_S_node
    (cf_S_node
     (cf_S_leaf (cf_S_get (T := cf_T3) (N := 17) (idx := 63) rfl (by decide) cf_la3 (cf_mem 121 (by decide +kernel)) (by decide +kernel)))
     (cf_S_leaf (cf_S_aload_n (j := 0) (by decide +kernel) rfl)))
    (cf_S_node
     (cf_S_leaf (cf_S_get (T := cf_T3) (N := 17) (idx := 53) rfl (by decide) cf_la3 (cf_mem 141 (by decide +kernel)) (by decide +kernel)))
     (cf_S_node
      (cf_S_leaf (cf_S_callV (d := 2) (idx := 115) (ct_M_load l) sh_M_load rfl (cf_mem 246 (by decide +kernel)) (cf_mem 406 (by decide +kernel)) (cf_mem 244 (by decide +kernel)) (cf_mem 245 (by decide +kernel)) (cf_mem 38 (by decide +kernel)) ⟨⟨by decide +kernel, by decide +kernel⟩, by decide +kernel⟩ ⟨by decide, by decide⟩ (by decide +kernel)))
      (cf_S_leaf (cf_S_aload_n (j := 0) (by decide +kernel) rfl)))))
   (cf_S_node
    (cf_S_node
     (cf_S_leaf (cf_S_get (T := cf_T3) (N := 17) (idx := 67) rfl (by decide) cf_la3 (cf_mem 122 (by decide +kernel)) (by decide +kernel)))
     (cf_S_leaf (cf_S_aload_n (j := 0) (by decide +kernel) rfl)))
    (cf_S_node
     (cf_S_leaf (cf_S_get (T := cf_T3) (N := 17) (idx := 38) rfl (by decide) cf_la3 (cf_mem 134 (by decide +kernel)) (by decide +kernel)))
     (cf_S_node
      (cf_S_leaf (cf_S_callV (d := 3) (idx := 125) (ct_M_judge l) sh_M_judge rfl (cf_mem 255 (by decide +kernel)) (cf_mem 408 (by decide +kernel)) (cf_mem 253 (by decide +kernel)) (cf_mem 254 (by decide +kernel)) (cf_mem 38 (by decide +kernel)) ⟨⟨by decide +kernel, by decide +kernel⟩, by decide +kernel⟩ ⟨by decide, by decide⟩ (by decide +kernel)))
      (cf_S_leaf (cf_S_iret (by decide +kernel))))))))
theorem ct_S_judgeUpcoming (l : Launch) : ∀ as w q, F_S_judgeUpcoming as w = some q → cf_Ct l (⟨"CulpritFinder$Search", "judgeUpcoming", "()I"⟩ : MethodName) prog_5_method_9_code 1 (some .int) 4 as w q := cf_F_ct (sd_S_judgeUpcoming l) (by decide)
theorem sh_S_judgeUpcoming : ∀ as w q, F_S_judgeUpcoming as w = some q → ∃ (k : Nat) (as' : List cf_AV) (fs : List (Option Nat)), as = .inr k :: as' ∧ as'.length = 0 ∧ cf_shp k = .inr (3, fs) := cf_shV_of rfl
set_option maxRecDepth 100000 in
theorem sd_R_keepVerdict (l : Launch) (pc : Nat) : cf_S l (cf_rm 0) prog_4_method_3_code 3 "CulpritFinder$Reduction" pc (T_R_keepVerdict pc) := cf_S_node
 (cf_S_node
  (cf_S_leaf (cf_S_aload_n (j := 0) (by decide +kernel) rfl))
  (cf_S_node
   (cf_S_leaf (cf_S_get (T := cf_T2) (N := 3) (idx := 9) rfl (by decide) cf_la2 (cf_mem 110 (by decide +kernel)) (by decide +kernel)))
   (cf_S_leaf (cf_S_iload_n (j := 1) (by decide +kernel) rfl))))
 (cf_S_node
  (cf_S_leaf (cf_S_iload_n (j := 2) (by decide +kernel) rfl))
  (cf_S_node
   (cf_S_leaf (cf_S_iast (by decide +kernel)))
   (cf_S_leaf (cf_S_vret (by decide +kernel)))))
theorem ct_R_keepVerdict (l : Launch) : ∀ as w q, F_R_keepVerdict as w = some q → cf_Ct l (⟨"CulpritFinder$Reduction", "keepVerdict", "(II)V"⟩ : MethodName) prog_4_method_3_code 3 none 0 as w q := cf_F_ct (sd_R_keepVerdict l) (by decide)
theorem sh_R_keepVerdict : ∀ as w q, F_R_keepVerdict as w = some q → ∃ (k : Nat) (as' : List cf_AV) (fs : List (Option Nat)), as = .inr k :: as' ∧ as'.length = 2 ∧ cf_shp k = .inr (2, fs) := cf_shV_of rfl
set_option maxRecDepth 100000 in
theorem sd_S_keepVerdict (l : Launch) (pc : Nat) : cf_S l (cf_rm 1) prog_5_method_10_code 3 "CulpritFinder$Search" pc (T_S_keepVerdict pc) := cf_S_node
 (cf_S_node
  (cf_S_node
   (cf_S_node
    (cf_S_node
     (cf_S_leaf (cf_S_iload_n (j := 1) (by decide +kernel) rfl))
     (cf_S_leaf (cf_S_sipush (n := 1000) (by decide +kernel) (by decide +kernel))))
    (cf_S_node
     (cf_S_leaf (cf_S_iclt (off := 17) (by decide +kernel) (by decide)))
     (cf_S_leaf (cf_S_aload_n (j := 0) (by decide +kernel) rfl))))
   (cf_S_node
    (cf_S_node
     (cf_S_leaf (cf_S_get (T := cf_T3) (N := 17) (idx := 12) rfl (by decide) cf_la3 (cf_mem 123 (by decide +kernel)) (by decide +kernel)))
     (cf_S_leaf (cf_S_iload_n (j := 1) (by decide +kernel) rfl)))
    (cf_S_node
     (cf_S_leaf (cf_S_sipush (n := 1000) (by decide +kernel) (by decide +kernel)))
     (cf_S_node
      (cf_S_leaf (cf_S_isub (by decide +kernel)))
      (cf_S_leaf (cf_S_iload_n (j := 2) (by decide +kernel) rfl))))))
  (cf_S_node
   (cf_S_node
    (cf_S_node
     (cf_S_leaf (cf_S_callV (d := 0) (idx := 128) (ct_R_keepVerdict l) sh_R_keepVerdict rfl (cf_mem 416 (by decide +kernel)) (cf_mem 413 (by decide +kernel)) (cf_mem 414 (by decide +kernel)) (cf_mem 415 (by decide +kernel)) (cf_mem 40 (by decide +kernel)) ⟨⟨by decide +kernel, by decide +kernel⟩, by decide +kernel⟩ ⟨by decide, by decide⟩ (by decide +kernel)))
     (cf_S_leaf (cf_S_vret (by decide +kernel))))
    (cf_S_node
     (cf_S_leaf (cf_S_aload_n (j := 0) (by decide +kernel) rfl))
     (cf_S_leaf (cf_S_get (T := cf_T3) (N := 17) (idx := 22) rfl (by decide) cf_la3 (cf_mem 127 (by decide +kernel)) (by decide +kernel)))))
   (cf_S_node
    (cf_S_node
     (cf_S_leaf (cf_S_iload_n (j := 1) (by decide +kernel) rfl))
     (cf_S_leaf (cf_S_iload_n (j := 2) (by decide +kernel) rfl)))
    (cf_S_node
     (cf_S_leaf (cf_S_iast (by decide +kernel)))
     (cf_S_node
      (cf_S_leaf (cf_S_iload_n (j := 2) (by decide +kernel) rfl))
      (cf_S_leaf (cf_S_iconst (n := 2) (by decide +kernel) (by decide))))))))
 (cf_S_node
  (cf_S_node
   (cf_S_node
    (cf_S_node
     (cf_S_leaf (cf_S_icne (off := 11) (by decide +kernel) (by decide)))
     (cf_S_leaf (cf_S_aload_n (j := 0) (by decide +kernel) rfl)))
    (cf_S_node
     (cf_S_leaf (cf_S_iload_n (j := 1) (by decide +kernel) rfl))
     (cf_S_leaf (cf_S_put (T := cf_T3) (N := 17) (idx := 41) (tT := cf_y3) rfl (by decide) cf_la3 cf_ty3 cf_nm3 rfl (by decide +kernel) (cf_mem 135 (by decide +kernel)) (by decide +kernel)))))
   (cf_S_node
    (cf_S_node
     (cf_S_leaf (cf_S_goto (off := 26) (by decide +kernel) (by decide)))
     (cf_S_leaf (cf_S_iload_n (j := 2) (by decide +kernel) rfl)))
    (cf_S_node
     (cf_S_leaf (cf_S_iconst (n := 1) (by decide +kernel) (by decide)))
     (cf_S_node
      (cf_S_leaf (cf_S_icne (off := 21) (by decide +kernel) (by decide)))
      (cf_S_leaf (cf_S_aload_n (j := 0) (by decide +kernel) rfl))))))
  (cf_S_node
   (cf_S_node
    (cf_S_node
     (cf_S_leaf (cf_S_dup (by decide +kernel)))
     (cf_S_leaf (cf_S_get (T := cf_T3) (N := 17) (idx := 44) rfl (by decide) cf_la3 (cf_mem 136 (by decide +kernel)) (by decide +kernel))))
    (cf_S_node
     (cf_S_leaf (cf_S_aload_n (j := 0) (by decide +kernel) rfl))
     (cf_S_node
      (cf_S_leaf (cf_S_get (T := cf_T3) (N := 17) (idx := 63) rfl (by decide) cf_la3 (cf_mem 121 (by decide +kernel)) (by decide +kernel)))
      (cf_S_leaf (cf_S_getN (T := cf_T0) (N := 5) (host := "CulpritFinder") (idx := 103) rfl (by decide) cf_la0 (cf_mem 63 (by decide +kernel)) (by decide +kernel))))))
   (cf_S_node
    (cf_S_node
     (cf_S_leaf (cf_S_iload_n (j := 1) (by decide +kernel) rfl))
     (cf_S_leaf (cf_S_iald (by decide +kernel))))
    (cf_S_node
     (cf_S_leaf (cf_S_ior (by decide +kernel)))
     (cf_S_node
      (cf_S_leaf (cf_S_put (T := cf_T3) (N := 17) (idx := 44) (tT := cf_y3) rfl (by decide) cf_la3 cf_ty3 cf_nm3 rfl (by decide +kernel) (cf_mem 136 (by decide +kernel)) (by decide +kernel)))
      (cf_S_leaf (cf_S_vret (by decide +kernel))))))))
theorem ct_S_keepVerdict (l : Launch) : ∀ as w q, F_S_keepVerdict as w = some q → cf_Ct l (⟨"CulpritFinder$Search", "keepVerdict", "(II)V"⟩ : MethodName) prog_5_method_10_code 3 none 1 as w q := cf_F_ct (sd_S_keepVerdict l) (by decide)
theorem sh_S_keepVerdict : ∀ as w q, F_S_keepVerdict as w = some q → ∃ (k : Nat) (as' : List cf_AV) (fs : List (Option Nat)), as = .inr k :: as' ∧ as'.length = 2 ∧ cf_shp k = .inr (3, fs) := cf_shV_of rfl
set_option maxRecDepth 100000 in
theorem sd_S_finishTest (l : Launch) (pc : Nat) : cf_S l (cf_rm 5) prog_5_method_5_code 2 "CulpritFinder$Search" pc (T_S_finishTest pc) := cf_S_node
 (cf_S_node
  (cf_S_node
   (cf_S_node
    (cf_S_node
     (cf_S_leaf (cf_S_aload_n (j := 0) (by decide +kernel) rfl))
     (cf_S_leaf (cf_S_get (T := cf_T3) (N := 17) (idx := 56) rfl (by decide) cf_la3 (cf_mem 143 (by decide +kernel)) (by decide +kernel))))
    (cf_S_node
     (cf_S_leaf (cf_S_ifne (off := 5) (by decide +kernel) (by decide)))
     (cf_S_leaf (cf_S_iconst (n := 0) (by decide +kernel) (by decide)))))
   (cf_S_node
    (cf_S_node
     (cf_S_leaf (cf_S_iret (by decide +kernel)))
     (cf_S_leaf (cf_S_aload_n (j := 0) (by decide +kernel) rfl)))
    (cf_S_node
     (cf_S_leaf (cf_S_iconst (n := 0) (by decide +kernel) (by decide)))
     (cf_S_node
      (cf_S_leaf (cf_S_putz (T := cf_T3) (N := 17) (idx := 56) (tT := cf_y3) rfl (by decide) cf_la3 cf_ty3 cf_nm3 rfl (by decide +kernel) (cf_mem 143 (by decide +kernel)) (by decide +kernel)))
      (cf_S_leaf (cf_S_aload_n (j := 0) (by decide +kernel) rfl))))))
  (cf_S_node
   (cf_S_node
    (cf_S_node
     (cf_S_leaf (cf_S_callV (d := 4) (idx := 89) (ct_S_judgeUpcoming l) sh_S_judgeUpcoming rfl (cf_mem 405 (by decide +kernel)) (cf_mem 402 (by decide +kernel)) (cf_mem 404 (by decide +kernel)) (cf_mem 13 (by decide +kernel)) (cf_mem 39 (by decide +kernel)) ⟨⟨by decide +kernel, by decide +kernel⟩, by decide +kernel⟩ ⟨by decide, by decide⟩ (by decide +kernel)))
     (cf_S_leaf (cf_S_istore_n (j := 1) (by decide +kernel) rfl (by decide))))
    (cf_S_node
     (cf_S_leaf (cf_S_aload_n (j := 0) (by decide +kernel) rfl))
     (cf_S_leaf (cf_S_get (T := cf_T3) (N := 17) (idx := 18) rfl (by decide) cf_la3 (cf_mem 125 (by decide +kernel)) (by decide +kernel)))))
   (cf_S_node
    (cf_S_node
     (cf_S_leaf (cf_S_aload_n (j := 0) (by decide +kernel) rfl))
     (cf_S_leaf (cf_S_get (T := cf_T3) (N := 17) (idx := 25) rfl (by decide) cf_la3 (cf_mem 128 (by decide +kernel)) (by decide +kernel))))
    (cf_S_node
     (cf_S_leaf (cf_S_bipush (n := 10) (by decide +kernel) (by decide +kernel)))
     (cf_S_node
      (cf_S_leaf (cf_S_aload_n (j := 0) (by decide +kernel) rfl))
      (cf_S_leaf (cf_S_get (T := cf_T3) (N := 17) (idx := 53) rfl (by decide) cf_la3 (cf_mem 141 (by decide +kernel)) (by decide +kernel))))))))
 (cf_S_node
  (cf_S_node
   (cf_S_node
    (cf_S_node
     (cf_S_leaf (cf_S_imul (by decide +kernel)))
     (cf_S_leaf (cf_S_iload_n (j := 1) (by decide +kernel) rfl)))
    (cf_S_node
     (cf_S_leaf (cf_S_iadd (by decide +kernel)))
     (cf_S_leaf (cf_S_iast (by decide +kernel)))))
   (cf_S_node
    (cf_S_node
     (cf_S_leaf (cf_S_aload_n (j := 0) (by decide +kernel) rfl))
     (cf_S_leaf (cf_S_dup (by decide +kernel))))
    (cf_S_node
     (cf_S_leaf (cf_S_get (T := cf_T3) (N := 17) (idx := 25) rfl (by decide) cf_la3 (cf_mem 128 (by decide +kernel)) (by decide +kernel)))
     (cf_S_node
      (cf_S_leaf (cf_S_iconst (n := 1) (by decide +kernel) (by decide)))
      (cf_S_leaf (cf_S_iadd (by decide +kernel)))))))
  (cf_S_node
   (cf_S_node
    (cf_S_node
     (cf_S_leaf (cf_S_put (T := cf_T3) (N := 17) (idx := 25) (tT := cf_y3) rfl (by decide) cf_la3 cf_ty3 cf_nm3 rfl (by decide +kernel) (cf_mem 128 (by decide +kernel)) (by decide +kernel)))
     (cf_S_leaf (cf_S_aload_n (j := 0) (by decide +kernel) rfl)))
    (cf_S_node
     (cf_S_leaf (cf_S_aload_n (j := 0) (by decide +kernel) rfl))
     (cf_S_node
      (cf_S_leaf (cf_S_get (T := cf_T3) (N := 17) (idx := 53) rfl (by decide) cf_la3 (cf_mem 141 (by decide +kernel)) (by decide +kernel)))
      (cf_S_leaf (cf_S_iload_n (j := 1) (by decide +kernel) rfl)))))
   (cf_S_node
    (cf_S_node
     (cf_S_leaf (cf_S_callV (d := 1) (idx := 93) (ct_S_keepVerdict l) sh_S_keepVerdict rfl (cf_mem 412 (by decide +kernel)) (cf_mem 409 (by decide +kernel)) (cf_mem 411 (by decide +kernel)) (cf_mem 14 (by decide +kernel)) (cf_mem 39 (by decide +kernel)) ⟨⟨by decide +kernel, by decide +kernel⟩, by decide +kernel⟩ ⟨by decide, by decide⟩ (by decide +kernel)))
     (cf_S_leaf (cf_S_aload_n (j := 0) (by decide +kernel) rfl)))
    (cf_S_node
     (cf_S_leaf (cf_S_callV (d := 4) (idx := 74) (ct_S_plan l) sh_S_plan rfl (cf_mem 320 (by decide +kernel)) (cf_mem 317 (by decide +kernel)) (cf_mem 319 (by decide +kernel)) (cf_mem 6 (by decide +kernel)) (cf_mem 39 (by decide +kernel)) ⟨⟨by decide +kernel, by decide +kernel⟩, by decide +kernel⟩ ⟨by decide, by decide⟩ (by decide +kernel)))
     (cf_S_node
      (cf_S_leaf (cf_S_iload_n (j := 1) (by decide +kernel) rfl))
      (cf_S_leaf (cf_S_iret (by decide +kernel))))))))
theorem ct_S_finishTest (l : Launch) : ∀ as w q, F_S_finishTest as w = some q → cf_Ct l (⟨"CulpritFinder$Search", "finishTest", "()I"⟩ : MethodName) prog_5_method_5_code 2 (some .int) 5 as w q := cf_F_ct (sd_S_finishTest l) (by decide)
theorem sh_S_finishTest : ∀ as w q, F_S_finishTest as w = some q → ∃ (k : Nat) (as' : List cf_AV) (fs : List (Option Nat)), as = .inr k :: as' ∧ as'.length = 0 ∧ cf_shp k = .inr (3, fs) := cf_shV_of rfl
set_option maxRecDepth 100000 in
theorem sd_C_finish (l : Launch) (pc : Nat) : cf_S l (cf_rm 6) prog_1_method_10_code 1 "CulpritFinder" pc (T_C_finish pc) := cf_S_node
 (cf_S_node
  (cf_S_leaf (cf_S_aload_n (j := 0) (by decide +kernel) rfl))
  (cf_S_leaf (cf_S_get (T := cf_T4) (N := 3) (idx := 28) rfl (by decide) cf_la4 (cf_mem 183 (by decide +kernel)) (by decide +kernel))))
 (cf_S_node
  (cf_S_leaf (cf_S_callV (d := 5) (idx := 85) (ct_S_finishTest l) sh_S_finishTest rfl (cf_mem 401 (by decide +kernel)) (cf_mem 398 (by decide +kernel)) (cf_mem 399 (by decide +kernel)) (cf_mem 400 (by decide +kernel)) (cf_mem 39 (by decide +kernel)) ⟨⟨by decide +kernel, by decide +kernel⟩, by decide +kernel⟩ ⟨by decide, by decide⟩ (by decide +kernel)))
  (cf_S_leaf (cf_S_iret (by decide +kernel))))
theorem ct_C_finish (l : Launch) : ∀ as w q, F_C_finish as w = some q → cf_Ct l (⟨"CulpritFinder", "finish", "()I"⟩ : MethodName) prog_1_method_10_code 1 (some .int) 6 as w q := cf_F_ct (sd_C_finish l) (by decide)
theorem sh_C_finish : ∀ as w q, F_C_finish as w = some q → ∃ (k : Nat) (as' : List cf_AV) (fs : List (Option Nat)), as = .inr k :: as' ∧ as'.length = 0 ∧ cf_shp k = .inr (4, fs) := cf_shV_of rfl
set_option maxRecDepth 100000 in
theorem sd_C_crash (l : Launch) (pc : Nat) : cf_S l (cf_rm 1) prog_1_method_11_code 1 "CulpritFinder" pc (T_C_crash pc) := cf_S_node
 (cf_S_node
  (cf_S_node
   (cf_S_leaf (cf_S_aload_n (j := 0) (by decide +kernel) rfl))
   (cf_S_leaf (cf_S_get (T := cf_T4) (N := 3) (idx := 28) rfl (by decide) cf_la4 (cf_mem 183 (by decide +kernel)) (by decide +kernel))))
  (cf_S_node
   (cf_S_leaf (cf_S_callV (d := 0) (idx := 89) (ct_S_loseTest l) sh_S_loseTest rfl (cf_mem 316 (by decide +kernel)) (cf_mem 421 (by decide +kernel)) (cf_mem 314 (by decide +kernel)) (cf_mem 315 (by decide +kernel)) (cf_mem 39 (by decide +kernel)) ⟨⟨by decide +kernel, by decide +kernel⟩, by decide +kernel⟩ ⟨by decide, by decide⟩ (by decide +kernel)))
   (cf_S_node
    (cf_S_leaf (cf_S_aload_n (j := 0) (by decide +kernel) rfl))
    (cf_S_leaf (cf_S_get (T := cf_T4) (N := 3) (idx := 28) rfl (by decide) cf_la4 (cf_mem 183 (by decide +kernel)) (by decide +kernel))))))
 (cf_S_node
  (cf_S_node
   (cf_S_leaf (cf_S_getN (T := cf_T3) (N := 17) (host := "CulpritFinder") (idx := 47) rfl (by decide) cf_la3 (cf_mem 131 (by decide +kernel)) (by decide +kernel)))
   (cf_S_node
    (cf_S_leaf (cf_S_ifeq (off := 7) (by decide +kernel) (by decide)))
    (cf_S_leaf (cf_S_iconst (n := 1) (by decide +kernel) (by decide)))))
  (cf_S_node
   (cf_S_leaf (cf_S_goto (off := 4) (by decide +kernel) (by decide)))
   (cf_S_node
    (cf_S_leaf (cf_S_iconst (n := 0) (by decide +kernel) (by decide)))
    (cf_S_leaf (cf_S_iret (by decide +kernel))))))
theorem ct_C_crash (l : Launch) : ∀ as w q, F_C_crash as w = some q → cf_Ct l (⟨"CulpritFinder", "crash", "()Z"⟩ : MethodName) prog_1_method_11_code 1 (some .boolean) 1 as w q := cf_F_ct (sd_C_crash l) (by decide)
theorem sh_C_crash : ∀ as w q, F_C_crash as w = some q → ∃ (k : Nat) (as' : List cf_AV) (fs : List (Option Nat)), as = .inr k :: as' ∧ as'.length = 0 ∧ cf_shp k = .inr (4, fs) := cf_shV_of rfl
set_option maxRecDepth 100000 in
theorem sd_C_journal (l : Launch) (pc : Nat) : cf_S l (cf_rm 0) prog_1_method_12_code 1 "CulpritFinder" pc (T_C_journal pc) := cf_S_node
 (cf_S_node
  (cf_S_leaf (cf_S_aload_n (j := 0) (by decide +kernel) rfl))
  (cf_S_leaf (cf_S_get (T := cf_T4) (N := 3) (idx := 28) rfl (by decide) cf_la4 (cf_mem 183 (by decide +kernel)) (by decide +kernel))))
 (cf_S_node
  (cf_S_leaf (cf_S_getN (T := cf_T3) (N := 17) (host := "CulpritFinder") (idx := 92) rfl (by decide) cf_la3 (cf_mem 129 (by decide +kernel)) (by decide +kernel)))
  (cf_S_leaf (cf_S_iret (by decide +kernel))))
theorem ct_C_journal (l : Launch) : ∀ as w q, F_C_journal as w = some q → cf_Ct l (⟨"CulpritFinder", "journal", "()I"⟩ : MethodName) prog_1_method_12_code 1 (some .int) 0 as w q := cf_F_ct (sd_C_journal l) (by decide)
theorem sh_C_journal : ∀ as w q, F_C_journal as w = some q → ∃ (k : Nat) (as' : List cf_AV) (fs : List (Option Nat)), as = .inr k :: as' ∧ as'.length = 0 ∧ cf_shp k = .inr (4, fs) := cf_shV_of rfl
set_option maxRecDepth 100000 in
theorem sd_C_entry (l : Launch) (pc : Nat) : cf_S l (cf_rm 0) prog_1_method_13_code 2 "CulpritFinder" pc (T_C_entry pc) := cf_S_node
 (cf_S_node
  (cf_S_node
   (cf_S_leaf (cf_S_iload_n (j := 1) (by decide +kernel) rfl))
   (cf_S_node
    (cf_S_leaf (cf_S_iflt (off := 26) (by decide +kernel) (by decide)))
    (cf_S_leaf (cf_S_iload_n (j := 1) (by decide +kernel) rfl))))
  (cf_S_node
   (cf_S_node
    (cf_S_leaf (cf_S_aload_n (j := 0) (by decide +kernel) rfl))
    (cf_S_leaf (cf_S_get (T := cf_T4) (N := 3) (idx := 28) rfl (by decide) cf_la4 (cf_mem 183 (by decide +kernel)) (by decide +kernel))))
   (cf_S_node
    (cf_S_leaf (cf_S_getN (T := cf_T3) (N := 17) (host := "CulpritFinder") (idx := 92) rfl (by decide) cf_la3 (cf_mem 129 (by decide +kernel)) (by decide +kernel)))
    (cf_S_leaf (cf_S_icge (off := 15) (by decide +kernel) (by decide))))))
 (cf_S_node
  (cf_S_node
   (cf_S_node
    (cf_S_leaf (cf_S_aload_n (j := 0) (by decide +kernel) rfl))
    (cf_S_leaf (cf_S_get (T := cf_T4) (N := 3) (idx := 28) rfl (by decide) cf_la4 (cf_mem 183 (by decide +kernel)) (by decide +kernel))))
   (cf_S_node
    (cf_S_leaf (cf_S_getN (T := cf_T3) (N := 17) (host := "CulpritFinder") (idx := 95) rfl (by decide) cf_la3 (cf_mem 126 (by decide +kernel)) (by decide +kernel)))
    (cf_S_leaf (cf_S_iload_n (j := 1) (by decide +kernel) rfl))))
  (cf_S_node
   (cf_S_node
    (cf_S_leaf (cf_S_iald (by decide +kernel)))
    (cf_S_leaf (cf_S_goto (off := 4) (by decide +kernel) (by decide))))
   (cf_S_node
    (cf_S_leaf (cf_S_iconst (n := -1) (by decide +kernel) (by decide)))
    (cf_S_leaf (cf_S_iret (by decide +kernel))))))
theorem ct_C_entry (l : Launch) : ∀ as w q, F_C_entry as w = some q → cf_Ct l (⟨"CulpritFinder", "entry", "(I)I"⟩ : MethodName) prog_1_method_13_code 2 (some .int) 0 as w q := cf_F_ct (sd_C_entry l) (by decide)
theorem sh_C_entry : ∀ as w q, F_C_entry as w = some q → ∃ (k : Nat) (as' : List cf_AV) (fs : List (Option Nat)), as = .inr k :: as' ∧ as'.length = 1 ∧ cf_shp k = .inr (4, fs) := cf_shV_of rfl
set_option maxRecDepth 100000 in
theorem sd_C_state (l : Launch) (pc : Nat) : cf_S l (cf_rm 0) prog_1_method_14_code 1 "CulpritFinder" pc (T_C_state pc) := cf_S_node
 (cf_S_node
  (cf_S_leaf (cf_S_aload_n (j := 0) (by decide +kernel) rfl))
  (cf_S_leaf (cf_S_get (T := cf_T4) (N := 3) (idx := 28) rfl (by decide) cf_la4 (cf_mem 183 (by decide +kernel)) (by decide +kernel))))
 (cf_S_node
  (cf_S_leaf (cf_S_getN (T := cf_T3) (N := 17) (host := "CulpritFinder") (idx := 47) rfl (by decide) cf_la3 (cf_mem 131 (by decide +kernel)) (by decide +kernel)))
  (cf_S_leaf (cf_S_iret (by decide +kernel))))
theorem ct_C_state (l : Launch) : ∀ as w q, F_C_state as w = some q → cf_Ct l (⟨"CulpritFinder", "state", "()I"⟩ : MethodName) prog_1_method_14_code 1 (some .int) 0 as w q := cf_F_ct (sd_C_state l) (by decide)
theorem sh_C_state : ∀ as w q, F_C_state as w = some q → ∃ (k : Nat) (as' : List cf_AV) (fs : List (Option Nat)), as = .inr k :: as' ∧ as'.length = 0 ∧ cf_shp k = .inr (4, fs) := cf_shV_of rfl
set_option maxRecDepth 100000 in
theorem sd_C_suspects (l : Launch) (pc : Nat) : cf_S l (cf_rm 0) prog_1_method_15_code 1 "CulpritFinder" pc (T_C_suspects pc) := cf_S_node
 (cf_S_node
  (cf_S_leaf (cf_S_aload_n (j := 0) (by decide +kernel) rfl))
  (cf_S_leaf (cf_S_get (T := cf_T4) (N := 3) (idx := 28) rfl (by decide) cf_la4 (cf_mem 183 (by decide +kernel)) (by decide +kernel))))
 (cf_S_node
  (cf_S_leaf (cf_S_getN (T := cf_T3) (N := 17) (host := "CulpritFinder") (idx := 99) rfl (by decide) cf_la3 (cf_mem 138 (by decide +kernel)) (by decide +kernel)))
  (cf_S_leaf (cf_S_iret (by decide +kernel))))
theorem ct_C_suspects (l : Launch) : ∀ as w q, F_C_suspects as w = some q → cf_Ct l (⟨"CulpritFinder", "suspects", "()I"⟩ : MethodName) prog_1_method_15_code 1 (some .int) 0 as w q := cf_F_ct (sd_C_suspects l) (by decide)
theorem sh_C_suspects : ∀ as w q, F_C_suspects as w = some q → ∃ (k : Nat) (as' : List cf_AV) (fs : List (Option Nat)), as = .inr k :: as' ∧ as'.length = 0 ∧ cf_shp k = .inr (4, fs) := cf_shV_of rfl
set_option maxRecDepth 100000 in
theorem sd_C_weight (l : Launch) (pc : Nat) : cf_S l (cf_rm 2) prog_1_method_16_code 2 "CulpritFinder" pc (T_C_weight pc) := cf_S_node
 (cf_S_node
  (cf_S_node
   (cf_S_leaf (cf_S_aload_n (j := 0) (by decide +kernel) rfl))
   (cf_S_node
    (cf_S_leaf (cf_S_get (T := cf_T4) (N := 3) (idx := 28) rfl (by decide) cf_la4 (cf_mem 183 (by decide +kernel)) (by decide +kernel)))
    (cf_S_leaf (cf_S_iload_n (j := 1) (by decide +kernel) rfl))))
  (cf_S_node
   (cf_S_leaf (cf_S_callV (d := 1) (idx := 102) (ct_S_isSuspect l) sh_S_isSuspect rfl (cf_mem 342 (by decide +kernel)) (cf_mem 442 (by decide +kernel)) (cf_mem 340 (by decide +kernel)) (cf_mem 341 (by decide +kernel)) (cf_mem 39 (by decide +kernel)) ⟨⟨by decide +kernel, by decide +kernel⟩, by decide +kernel⟩ ⟨by decide, by decide⟩ (by decide +kernel)))
   (cf_S_node
    (cf_S_leaf (cf_S_ifeq (off := 14) (by decide +kernel) (by decide)))
    (cf_S_leaf (cf_S_aload_n (j := 0) (by decide +kernel) rfl)))))
 (cf_S_node
  (cf_S_node
   (cf_S_leaf (cf_S_get (T := cf_T4) (N := 3) (idx := 28) rfl (by decide) cf_la4 (cf_mem 183 (by decide +kernel)) (by decide +kernel)))
   (cf_S_node
    (cf_S_leaf (cf_S_iload_n (j := 1) (by decide +kernel) rfl))
    (cf_S_leaf (cf_S_callV (d := 1) (idx := 105) (ct_S_weightOf l) sh_S_weightOf rfl (cf_mem 347 (by decide +kernel)) (cf_mem 443 (by decide +kernel)) (cf_mem 345 (by decide +kernel)) (cf_mem 346 (by decide +kernel)) (cf_mem 39 (by decide +kernel)) ⟨⟨by decide +kernel, by decide +kernel⟩, by decide +kernel⟩ ⟨by decide, by decide⟩ (by decide +kernel)))))
  (cf_S_node
   (cf_S_leaf (cf_S_goto (off := 4) (by decide +kernel) (by decide)))
   (cf_S_node
    (cf_S_leaf (cf_S_iconst (n := 0) (by decide +kernel) (by decide)))
    (cf_S_leaf (cf_S_iret (by decide +kernel))))))
theorem ct_C_weight (l : Launch) : ∀ as w q, F_C_weight as w = some q → cf_Ct l (⟨"CulpritFinder", "weight", "(I)I"⟩ : MethodName) prog_1_method_16_code 2 (some .int) 2 as w q := cf_F_ct (sd_C_weight l) (by decide)
theorem sh_C_weight : ∀ as w q, F_C_weight as w = some q → ∃ (k : Nat) (as' : List cf_AV) (fs : List (Option Nat)), as = .inr k :: as' ∧ as'.length = 1 ∧ cf_shp k = .inr (4, fs) := cf_shV_of rfl
set_option maxRecDepth 100000 in
theorem sd_C_culprit (l : Launch) (pc : Nat) : cf_S l (cf_rm 0) prog_1_method_17_code 1 "CulpritFinder" pc (T_C_culprit pc) := cf_S_node
 (cf_S_node
  (cf_S_leaf (cf_S_aload_n (j := 0) (by decide +kernel) rfl))
  (cf_S_leaf (cf_S_get (T := cf_T4) (N := 3) (idx := 28) rfl (by decide) cf_la4 (cf_mem 183 (by decide +kernel)) (by decide +kernel))))
 (cf_S_node
  (cf_S_leaf (cf_S_getN (T := cf_T3) (N := 17) (host := "CulpritFinder") (idx := 108) rfl (by decide) cf_la3 (cf_mem 140 (by decide +kernel)) (by decide +kernel)))
  (cf_S_leaf (cf_S_iret (by decide +kernel))))
theorem ct_C_culprit (l : Launch) : ∀ as w q, F_C_culprit as w = some q → cf_Ct l (⟨"CulpritFinder", "culprit", "()I"⟩ : MethodName) prog_1_method_17_code 1 (some .int) 0 as w q := cf_F_ct (sd_C_culprit l) (by decide)
theorem sh_C_culprit : ∀ as w q, F_C_culprit as w = some q → ∃ (k : Nat) (as' : List cf_AV) (fs : List (Option Nat)), as = .inr k :: as' ∧ as'.length = 0 ∧ cf_shp k = .inr (4, fs) := cf_shV_of rfl
set_option maxRecDepth 100000 in
theorem sd_C_reduced (l : Launch) (pc : Nat) : cf_S l (cf_rm 0) prog_1_method_18_code 1 "CulpritFinder" pc (T_C_reduced pc) := cf_S_node
 (cf_S_node
  (cf_S_leaf (cf_S_aload_n (j := 0) (by decide +kernel) rfl))
  (cf_S_leaf (cf_S_get (T := cf_T4) (N := 3) (idx := 28) rfl (by decide) cf_la4 (cf_mem 183 (by decide +kernel)) (by decide +kernel))))
 (cf_S_node
  (cf_S_leaf (cf_S_getN (T := cf_T3) (N := 17) (host := "CulpritFinder") (idx := 111) rfl (by decide) cf_la3 (cf_mem 124 (by decide +kernel)) (by decide +kernel)))
  (cf_S_node
   (cf_S_leaf (cf_S_getN (T := cf_T2) (N := 3) (host := "CulpritFinder") (idx := 115) rfl (by decide) cf_la2 (cf_mem 112 (by decide +kernel)) (by decide +kernel)))
   (cf_S_leaf (cf_S_iret (by decide +kernel)))))
theorem ct_C_reduced (l : Launch) : ∀ as w q, F_C_reduced as w = some q → cf_Ct l (⟨"CulpritFinder", "reduced", "()I"⟩ : MethodName) prog_1_method_18_code 1 (some .int) 0 as w q := cf_F_ct (sd_C_reduced l) (by decide)
theorem sh_C_reduced : ∀ as w q, F_C_reduced as w = some q → ∃ (k : Nat) (as' : List cf_AV) (fs : List (Option Nat)), as = .inr k :: as' ∧ as'.length = 0 ∧ cf_shp k = .inr (4, fs) := cf_shV_of rfl
set_option maxRecDepth 100000 in
theorem sd_C_started (l : Launch) (pc : Nat) : cf_S l (cf_rm 0) prog_1_method_19_code 1 "CulpritFinder" pc (T_C_started pc) := cf_S_node
 (cf_S_node
  (cf_S_leaf (cf_S_aload_n (j := 0) (by decide +kernel) rfl))
  (cf_S_leaf (cf_S_get (T := cf_T4) (N := 3) (idx := 28) rfl (by decide) cf_la4 (cf_mem 183 (by decide +kernel)) (by decide +kernel))))
 (cf_S_node
  (cf_S_leaf (cf_S_getN (T := cf_T3) (N := 17) (host := "CulpritFinder") (idx := 120) rfl (by decide) cf_la3 (cf_mem 145 (by decide +kernel)) (by decide +kernel)))
  (cf_S_leaf (cf_S_iret (by decide +kernel))))
theorem ct_C_started (l : Launch) : ∀ as w q, F_C_started as w = some q → cf_Ct l (⟨"CulpritFinder", "started", "()I"⟩ : MethodName) prog_1_method_19_code 1 (some .int) 0 as w q := cf_F_ct (sd_C_started l) (by decide)
theorem sh_C_started : ∀ as w q, F_C_started as w = some q → ∃ (k : Nat) (as' : List cf_AV) (fs : List (Option Nat)), as = .inr k :: as' ∧ as'.length = 0 ∧ cf_shp k = .inr (4, fs) := cf_shV_of rfl
set_option maxRecDepth 100000 in
theorem sd_P_in (l : Launch) (pc : Nat) : cf_S l (cf_rm 0) prog_7_method_2_code 3 "CulpritFinderModel" pc (T_P_in pc) := cf_S_node
 (cf_S_node
  (cf_S_node
   (cf_S_leaf (cf_S_iload_n (j := 0) (by decide +kernel) rfl))
   (cf_S_leaf (cf_S_iload_n (j := 1) (by decide +kernel) rfl)))
  (cf_S_node
   (cf_S_leaf (cf_S_iclt (off := 12) (by decide +kernel) (by decide)))
   (cf_S_node
    (cf_S_leaf (cf_S_iload_n (j := 0) (by decide +kernel) rfl))
    (cf_S_leaf (cf_S_iload_n (j := 2) (by decide +kernel) rfl)))))
 (cf_S_node
  (cf_S_node
   (cf_S_leaf (cf_S_icgt (off := 7) (by decide +kernel) (by decide)))
   (cf_S_leaf (cf_S_iconst (n := 1) (by decide +kernel) (by decide))))
  (cf_S_node
   (cf_S_leaf (cf_S_goto (off := 4) (by decide +kernel) (by decide)))
   (cf_S_node
    (cf_S_leaf (cf_S_iconst (n := 0) (by decide +kernel) (by decide)))
    (cf_S_leaf (cf_S_iret (by decide +kernel))))))
theorem ct_P_in (l : Launch) : ∀ as w q, F_P_in as w = some q → cf_Ct l (⟨"CulpritFinderModel", "in", "(III)Z"⟩ : MethodName) prog_7_method_2_code 3 (some .boolean) 0 as w q := cf_F_ct (sd_P_in l) (by decide)
theorem sh_P_in : ∀ as w q, F_P_in as w = some q → as.length = 3 := cf_shS_of
set_option maxRecDepth 100000 in
theorem sd_P_isCommit (l : Launch) (pc : Nat) : cf_S l (cf_rm 1) prog_7_method_3_code 2 "CulpritFinderModel" pc (T_P_isCommit pc) := cf_S_node
 (cf_S_node
  (cf_S_node
   (cf_S_leaf (cf_S_iload_n (j := 1) (by decide +kernel) rfl))
   (cf_S_leaf (cf_S_iconst (n := 0) (by decide +kernel) (by decide))))
  (cf_S_node
   (cf_S_leaf (cf_S_aload_n (j := 0) (by decide +kernel) rfl))
   (cf_S_leaf (cf_S_get (T := cf_T5) (N := 24) (idx := 40) rfl (by decide) cf_la5 (cf_mem 462 (by decide +kernel)) (by decide +kernel)))))
 (cf_S_node
  (cf_S_node
   (cf_S_leaf (cf_S_iconst (n := 1) (by decide +kernel) (by decide)))
   (cf_S_leaf (cf_S_isub (by decide +kernel))))
  (cf_S_node
   (cf_S_leaf (cf_S_callS (d := 0) (idx := 44) (ct_P_in l) sh_P_in (cf_mem 544 (by decide +kernel)) (cf_mem 542 (by decide +kernel)) (cf_mem 543 (by decide +kernel)) (cf_mem 41 (by decide +kernel)) ⟨⟨by decide +kernel, by decide +kernel⟩, by decide +kernel⟩ ⟨by decide, by decide⟩ (by decide +kernel)))
   (cf_S_leaf (cf_S_iret (by decide +kernel)))))
theorem ct_P_isCommit (l : Launch) : ∀ as w q, F_P_isCommit as w = some q → cf_Ct l (⟨"CulpritFinderModel", "isCommit", "(I)Z"⟩ : MethodName) prog_7_method_3_code 2 (some .boolean) 1 as w q := cf_F_ct (sd_P_isCommit l) (by decide)
theorem sh_P_isCommit : ∀ as w q, F_P_isCommit as w = some q → ∃ (k : Nat) (as' : List cf_AV) (fs : List (Option Nat)), as = .inr k :: as' ∧ as'.length = 1 ∧ cf_shp k = .inr (5, fs) := cf_shV_of rfl
set_option maxRecDepth 100000 in
theorem sd_P_commit (l : Launch) (pc : Nat) : cf_S l (cf_rm 2) prog_7_method_4_code 5 "CulpritFinderModel" pc (T_P_commit pc) := cf_S_node
 (cf_S_node
  (cf_S_node
   (cf_S_node
    (cf_S_node
     (cf_S_node
      (cf_S_leaf (cf_S_aload_n (j := 0) (by decide +kernel) rfl))
      (cf_S_node
       (cf_S_leaf (cf_S_get (T := cf_T5) (N := 24) (idx := 40) rfl (by decide) cf_la5 (cf_mem 462 (by decide +kernel)) (by decide +kernel)))
       (cf_S_leaf (cf_S_bipush (n := 14) (by decide +kernel) (by decide +kernel)))))
     (cf_S_node
      (cf_S_node
       (cf_S_leaf (cf_S_icge (off := 53) (by decide +kernel) (by decide)))
       (cf_S_leaf (cf_S_iload_n (j := 1) (by decide +kernel) rfl)))
      (cf_S_node
       (cf_S_leaf (cf_S_iconst (n := -1) (by decide +kernel) (by decide)))
       (cf_S_leaf (cf_S_iceq (off := 11) (by decide +kernel) (by decide))))))
    (cf_S_node
     (cf_S_node
      (cf_S_leaf (cf_S_aload_n (j := 0) (by decide +kernel) rfl))
      (cf_S_node
       (cf_S_leaf (cf_S_iload_n (j := 1) (by decide +kernel) rfl))
       (cf_S_leaf (cf_S_callV (d := 1) (idx := 48) (ct_P_isCommit l) sh_P_isCommit rfl (cf_mem 541 (by decide +kernel)) (cf_mem 538 (by decide +kernel)) (cf_mem 540 (by decide +kernel)) (cf_mem 15 (by decide +kernel)) (cf_mem 41 (by decide +kernel)) ⟨⟨by decide +kernel, by decide +kernel⟩, by decide +kernel⟩ ⟨by decide, by decide⟩ (by decide +kernel)))))
     (cf_S_node
      (cf_S_node
       (cf_S_leaf (cf_S_ifeq (off := 40) (by decide +kernel) (by decide)))
       (cf_S_leaf (cf_S_iload_n (j := 2) (by decide +kernel) rfl)))
      (cf_S_node
       (cf_S_leaf (cf_S_iconst (n := -1) (by decide +kernel) (by decide)))
       (cf_S_leaf (cf_S_iceq (off := 11) (by decide +kernel) (by decide)))))))
   (cf_S_node
    (cf_S_node
     (cf_S_node
      (cf_S_leaf (cf_S_aload_n (j := 0) (by decide +kernel) rfl))
      (cf_S_node
       (cf_S_leaf (cf_S_iload_n (j := 2) (by decide +kernel) rfl))
       (cf_S_leaf (cf_S_callV (d := 1) (idx := 48) (ct_P_isCommit l) sh_P_isCommit rfl (cf_mem 541 (by decide +kernel)) (cf_mem 538 (by decide +kernel)) (cf_mem 540 (by decide +kernel)) (cf_mem 15 (by decide +kernel)) (cf_mem 41 (by decide +kernel)) ⟨⟨by decide +kernel, by decide +kernel⟩, by decide +kernel⟩ ⟨by decide, by decide⟩ (by decide +kernel)))))
     (cf_S_node
      (cf_S_node
       (cf_S_leaf (cf_S_ifeq (off := 27) (by decide +kernel) (by decide)))
       (cf_S_leaf (cf_S_iload_n (j := 1) (by decide +kernel) rfl)))
      (cf_S_node
       (cf_S_leaf (cf_S_iconst (n := -1) (by decide +kernel) (by decide)))
       (cf_S_leaf (cf_S_icne (off := 8) (by decide +kernel) (by decide))))))
    (cf_S_node
     (cf_S_node
      (cf_S_node
       (cf_S_leaf (cf_S_iload_n (j := 2) (by decide +kernel) rfl))
       (cf_S_leaf (cf_S_iconst (n := -1) (by decide +kernel) (by decide))))
      (cf_S_node
       (cf_S_leaf (cf_S_icne (off := 17) (by decide +kernel) (by decide)))
       (cf_S_leaf (cf_S_iload_n (j := 1) (by decide +kernel) rfl))))
     (cf_S_node
      (cf_S_node
       (cf_S_leaf (cf_S_iload_n (j := 2) (by decide +kernel) rfl))
       (cf_S_leaf (cf_S_icne (off := 8) (by decide +kernel) (by decide))))
      (cf_S_node
       (cf_S_leaf (cf_S_iload_n (j := 1) (by decide +kernel) rfl))
       (cf_S_leaf (cf_S_iconst (n := -1) (by decide +kernel) (by decide))))))))
  (cf_S_node
   (cf_S_node
    (cf_S_node
     (cf_S_node
      (cf_S_leaf (cf_S_icne (off := 7) (by decide +kernel) (by decide)))
      (cf_S_node
       (cf_S_leaf (cf_S_iconst (n := 1) (by decide +kernel) (by decide)))
       (cf_S_leaf (cf_S_goto (off := 4) (by decide +kernel) (by decide)))))
     (cf_S_node
      (cf_S_node
       (cf_S_leaf (cf_S_iconst (n := 0) (by decide +kernel) (by decide)))
       (cf_S_leaf (cf_S_istore_n (j := 3) (by decide +kernel) rfl (by decide))))
      (cf_S_node
       (cf_S_leaf (cf_S_iload_n (j := 3) (by decide +kernel) rfl))
       (cf_S_leaf (cf_S_ifne (off := 5) (by decide +kernel) (by decide))))))
    (cf_S_node
     (cf_S_node
      (cf_S_leaf (cf_S_iconst (n := -1) (by decide +kernel) (by decide)))
      (cf_S_node
       (cf_S_leaf (cf_S_iret (by decide +kernel)))
       (cf_S_leaf (cf_S_aload_n (j := 0) (by decide +kernel) rfl))))
     (cf_S_node
      (cf_S_node
       (cf_S_leaf (cf_S_get (T := cf_T5) (N := 24) (idx := 7) rfl (by decide) cf_la5 (cf_mem 463 (by decide +kernel)) (by decide +kernel)))
       (cf_S_leaf (cf_S_aload_n (j := 0) (by decide +kernel) rfl)))
      (cf_S_node
       (cf_S_leaf (cf_S_get (T := cf_T5) (N := 24) (idx := 40) rfl (by decide) cf_la5 (cf_mem 462 (by decide +kernel)) (by decide +kernel)))
       (cf_S_leaf (cf_S_iload_n (j := 1) (by decide +kernel) rfl))))))
   (cf_S_node
    (cf_S_node
     (cf_S_node
      (cf_S_leaf (cf_S_iast (by decide +kernel)))
      (cf_S_node
       (cf_S_leaf (cf_S_aload_n (j := 0) (by decide +kernel) rfl))
       (cf_S_leaf (cf_S_get (T := cf_T5) (N := 24) (idx := 13) rfl (by decide) cf_la5 (cf_mem 464 (by decide +kernel)) (by decide +kernel)))))
     (cf_S_node
      (cf_S_node
       (cf_S_leaf (cf_S_aload_n (j := 0) (by decide +kernel) rfl))
       (cf_S_leaf (cf_S_get (T := cf_T5) (N := 24) (idx := 40) rfl (by decide) cf_la5 (cf_mem 462 (by decide +kernel)) (by decide +kernel))))
      (cf_S_node
       (cf_S_leaf (cf_S_iload_n (j := 2) (by decide +kernel) rfl))
       (cf_S_leaf (cf_S_iast (by decide +kernel))))))
    (cf_S_node
     (cf_S_node
      (cf_S_node
       (cf_S_leaf (cf_S_aload_n (j := 0) (by decide +kernel) rfl))
       (cf_S_leaf (cf_S_get (T := cf_T5) (N := 24) (idx := 19) rfl (by decide) cf_la5 (cf_mem 466 (by decide +kernel)) (by decide +kernel))))
      (cf_S_node
       (cf_S_leaf (cf_S_aload_n (j := 0) (by decide +kernel) rfl))
       (cf_S_leaf (cf_S_get (T := cf_T5) (N := 24) (idx := 40) rfl (by decide) cf_la5 (cf_mem 462 (by decide +kernel)) (by decide +kernel)))))
     (cf_S_node
      (cf_S_node
       (cf_S_leaf (cf_S_iconst (n := 1) (by decide +kernel) (by decide)))
       (cf_S_leaf (cf_S_aload_n (j := 0) (by decide +kernel) rfl)))
      (cf_S_node
       (cf_S_leaf (cf_S_get (T := cf_T5) (N := 24) (idx := 40) rfl (by decide) cf_la5 (cf_mem 462 (by decide +kernel)) (by decide +kernel)))
       (cf_S_leaf (cf_S_ishl (by decide +kernel)))))))))
 (cf_S_node
  (cf_S_node
   (cf_S_node
    (cf_S_node
     (cf_S_node
      (cf_S_leaf (cf_S_iload_n (j := 1) (by decide +kernel) rfl))
      (cf_S_node
       (cf_S_leaf (cf_S_ifge (off := 7) (by decide +kernel) (by decide)))
       (cf_S_leaf (cf_S_iconst (n := 0) (by decide +kernel) (by decide)))))
     (cf_S_node
      (cf_S_node
       (cf_S_leaf (cf_S_goto (off := 9) (by decide +kernel) (by decide)))
       (cf_S_leaf (cf_S_aload_n (j := 0) (by decide +kernel) rfl)))
      (cf_S_node
       (cf_S_leaf (cf_S_get (T := cf_T5) (N := 24) (idx := 19) rfl (by decide) cf_la5 (cf_mem 466 (by decide +kernel)) (by decide +kernel)))
       (cf_S_leaf (cf_S_iload_n (j := 1) (by decide +kernel) rfl)))))
    (cf_S_node
     (cf_S_node
      (cf_S_leaf (cf_S_iald (by decide +kernel)))
      (cf_S_node
       (cf_S_leaf (cf_S_ior (by decide +kernel)))
       (cf_S_leaf (cf_S_iload_n (j := 2) (by decide +kernel) rfl))))
     (cf_S_node
      (cf_S_node
       (cf_S_leaf (cf_S_ifge (off := 7) (by decide +kernel) (by decide)))
       (cf_S_leaf (cf_S_iconst (n := 0) (by decide +kernel) (by decide))))
      (cf_S_node
       (cf_S_leaf (cf_S_goto (off := 9) (by decide +kernel) (by decide)))
       (cf_S_leaf (cf_S_aload_n (j := 0) (by decide +kernel) rfl))))))
   (cf_S_node
    (cf_S_node
     (cf_S_node
      (cf_S_leaf (cf_S_get (T := cf_T5) (N := 24) (idx := 19) rfl (by decide) cf_la5 (cf_mem 466 (by decide +kernel)) (by decide +kernel)))
      (cf_S_node
       (cf_S_leaf (cf_S_iload_n (j := 2) (by decide +kernel) rfl))
       (cf_S_leaf (cf_S_iald (by decide +kernel)))))
     (cf_S_node
      (cf_S_node
       (cf_S_leaf (cf_S_ior (by decide +kernel)))
       (cf_S_leaf (cf_S_iast (by decide +kernel))))
      (cf_S_node
       (cf_S_leaf (cf_S_iconst (n := 0) (by decide +kernel) (by decide)))
       (cf_S_leaf (cf_S_istore (by decide +kernel) (by decide))))))
    (cf_S_node
     (cf_S_node
      (cf_S_node
       (cf_S_leaf (cf_S_iload (by decide +kernel)))
       (cf_S_leaf (cf_S_bipush (n := 8) (by decide +kernel) (by decide +kernel))))
      (cf_S_node
       (cf_S_leaf (cf_S_icge (off := 44) (by decide +kernel) (by decide)))
       (cf_S_leaf (cf_S_aload_n (j := 0) (by decide +kernel) rfl))))
     (cf_S_node
      (cf_S_node
       (cf_S_leaf (cf_S_get (T := cf_T5) (N := 24) (idx := 16) rfl (by decide) cf_la5 (cf_mem 465 (by decide +kernel)) (by decide +kernel)))
       (cf_S_leaf (cf_S_bipush (n := 8) (by decide +kernel) (by decide +kernel))))
      (cf_S_node
       (cf_S_leaf (cf_S_aload_n (j := 0) (by decide +kernel) rfl))
       (cf_S_leaf (cf_S_get (T := cf_T5) (N := 24) (idx := 40) rfl (by decide) cf_la5 (cf_mem 462 (by decide +kernel)) (by decide +kernel))))))))
  (cf_S_node
   (cf_S_node
    (cf_S_node
     (cf_S_node
      (cf_S_leaf (cf_S_imul (by decide +kernel)))
      (cf_S_node
       (cf_S_leaf (cf_S_iload (by decide +kernel)))
       (cf_S_leaf (cf_S_iadd (by decide +kernel)))))
     (cf_S_node
      (cf_S_node
       (cf_S_leaf (cf_S_iload_n (j := 1) (by decide +kernel) rfl))
       (cf_S_leaf (cf_S_ifge (off := 7) (by decide +kernel) (by decide))))
      (cf_S_node
       (cf_S_leaf (cf_S_iconst (n := 0) (by decide +kernel) (by decide)))
       (cf_S_leaf (cf_S_goto (off := 15) (by decide +kernel) (by decide))))))
    (cf_S_node
     (cf_S_node
      (cf_S_leaf (cf_S_aload_n (j := 0) (by decide +kernel) rfl))
      (cf_S_node
       (cf_S_leaf (cf_S_get (T := cf_T5) (N := 24) (idx := 16) rfl (by decide) cf_la5 (cf_mem 465 (by decide +kernel)) (by decide +kernel)))
       (cf_S_leaf (cf_S_bipush (n := 8) (by decide +kernel) (by decide +kernel)))))
     (cf_S_node
      (cf_S_node
       (cf_S_leaf (cf_S_iload_n (j := 1) (by decide +kernel) rfl))
       (cf_S_leaf (cf_S_imul (by decide +kernel))))
      (cf_S_node
       (cf_S_leaf (cf_S_iload (by decide +kernel)))
       (cf_S_leaf (cf_S_iadd (by decide +kernel)))))))
   (cf_S_node
    (cf_S_node
     (cf_S_node
      (cf_S_leaf (cf_S_iald (by decide +kernel)))
      (cf_S_node
       (cf_S_leaf (cf_S_iast (by decide +kernel)))
       (cf_S_leaf (cf_S_iinc (n := 1) (by decide +kernel) (by decide) (by decide)))))
     (cf_S_node
      (cf_S_node
       (cf_S_leaf (cf_S_goto (off := -45) (by decide +kernel) (by decide)))
       (cf_S_leaf (cf_S_aload_n (j := 0) (by decide +kernel) rfl)))
      (cf_S_node
       (cf_S_leaf (cf_S_aload_n (j := 0) (by decide +kernel) rfl))
       (cf_S_leaf (cf_S_get (T := cf_T5) (N := 24) (idx := 40) rfl (by decide) cf_la5 (cf_mem 462 (by decide +kernel)) (by decide +kernel))))))
    (cf_S_node
     (cf_S_node
      (cf_S_node
       (cf_S_leaf (cf_S_iconst (n := 1) (by decide +kernel) (by decide)))
       (cf_S_leaf (cf_S_iadd (by decide +kernel))))
      (cf_S_node
       (cf_S_leaf (cf_S_put (T := cf_T5) (N := 24) (idx := 40) (tT := cf_y5) rfl (by decide) cf_la5 cf_ty5 cf_nm5 rfl (by decide +kernel) (cf_mem 462 (by decide +kernel)) (by decide +kernel)))
       (cf_S_leaf (cf_S_aload_n (j := 0) (by decide +kernel) rfl))))
     (cf_S_node
      (cf_S_node
       (cf_S_leaf (cf_S_get (T := cf_T5) (N := 24) (idx := 40) rfl (by decide) cf_la5 (cf_mem 462 (by decide +kernel)) (by decide +kernel)))
       (cf_S_leaf (cf_S_iconst (n := 1) (by decide +kernel) (by decide))))
      (cf_S_node
       (cf_S_leaf (cf_S_isub (by decide +kernel)))
       (cf_S_leaf (cf_S_iret (by decide +kernel)))))))))
theorem ct_P_commit (l : Launch) : ∀ as w q, F_P_commit as w = some q → cf_Ct l (⟨"CulpritFinderModel", "commit", "(II)I"⟩ : MethodName) prog_7_method_4_code 5 (some .int) 2 as w q := cf_F_ct (sd_P_commit l) (by decide)
theorem sh_P_commit : ∀ as w q, F_P_commit as w = some q → ∃ (k : Nat) (as' : List cf_AV) (fs : List (Option Nat)), as = .inr k :: as' ∧ as'.length = 2 ∧ cf_shp k = .inr (5, fs) := cf_shV_of rfl
