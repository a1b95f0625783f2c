/-! the law: its script is cell 26 -/
def cf_sld (xs : Nat → Int32) (Ls nx : Nat) : cf_Rw := fun L st w => match st with
  | .inl i :: .inr k :: r => bif Nat.beq k 26 then (bif cf_in i Ls then some (.inl (nx, L, .inl (xs i.toNatClampNeg) :: r, w)) else none) else none
  | _ => none
def cf_sln (Ls nx : Nat) : cf_Rw := fun L st w => match st with
  | .inr k :: r => bif Nat.beq k 26 then some (.inl (nx, L, .inl (nI Ls) :: r, w)) else none
  | _ => none
def cf_XX (xs : Nat → Int32) (Ls : Nat) (Z : cf_Z) : Prop := match Z with
  | (_, _, s, _, _, _, _, _, _, _, _, _, _, ad, A) => va_X (ad 26) Ls xs s s.heap ∧ ad 26 < s.heap.size ∧ ¬ A (ad 26)
def cf_SL (xs : Nat → Int32) (Ls : Nat) (l : Launch) (R : Room) (cc : ByteArray) (nL : Nat) (own : String) (pc : Nat) (f : cf_Rw) : Prop := ∀ Z : cf_Z, cf_C R cc nL own Z → cf_XX xs Ls Z → ∀ (L : List (Option cf_AV)) (st : List cf_AV) (w : cf_Wd), (∀ b : cf_Cfg, f L st w = some (.inl b) → cf_R l R nL Z b → cf_R l R nL Z (pc, L, st, w)) ∧ (∀ q : cf_Rs, f L st w = some (.inr q) → cf_Fin l R cc Z q → cf_R l R nL Z (pc, L, st, w))
section LawRows
variable {xs : Nat → Int32} {Ls : Nat} {l : Launch} {R : Room} {cc : ByteArray} {nL : Nat} {own : String} {pc : Nat}
theorem cf_SL_of {f : cf_Rw} (h : cf_S l R cc nL own pc f) : cf_SL xs Ls l R cc nL own pc f := fun Z hC _ => h Z hC
theorem cf_SL_node {b : Bool} {f g : cf_Rw} (hf : cf_SL xs Ls l R cc nL own pc f) (hg : cf_SL xs Ls l R cc nL own pc g) : cf_SL xs Ls l R cc nL own pc (bif b then f else g) := by
  cases b
  · exact hg
  · exact hf
theorem cf_SL_leaf {K : Nat} {f : cf_Rw} (hf : cf_SL xs Ls l R cc nL own K f) : cf_SL xs Ls l R cc nL own pc (bif Nat.beq pc K then f else cf_stuck) := by
  cases hb : Nat.beq pc K with
  | false => exact cf_SL_of cf_S_stuck
  | true =>
    have e : pc = K := Nat.eq_of_beq_eq_true hb
    subst e
    exact hf
theorem cf_SL_sld (hd : decode cc pc = .ok (.iaload, 1)) : cf_SL xs Ls l R cc nL own pc (cf_sld xs Ls (pc + 1)) := by
  intro Z hC hX L st w
  obtain ⟨p, e, s, m, args, below, meth, c, cells, slots, Q, D, cA, ad, A⟩ := Z
  obtain ⟨hx, hb, hml, hown, hB, hK, hD, hc1, hc2⟩ := hC
  obtain ⟨hX1, hX2, hX3⟩ := hX
  refine ⟨fun b h k => ?_, fun q h => ?_⟩
  · unfold cf_sld at h
    split at h
    · rename_i i k0 r
      cases hg : Nat.beq k0 26 with
      | false => rw [hg] at h; exact nomatch h
      | true =>
        rw [hg] at h
        have e9 : k0 = 26 := Nat.eq_of_beq_eq_true hg
        subst e9
        cases hg2 : cf_in i Ls with
        | false => rw [hg2] at h; exact nomatch h
        | true =>
          rw [hg2] at h
          obtain rfl := Sum.inl.inj (Option.some.inj h)
          intro H locs ls hL hP hS
          exact va_sld hx hb hX1 hX2 hX3 hS (cf_in_vp hg2) hd (k H locs ls hL hP hS)
    · cases h
  · unfold cf_sld at h
    split at h
    · rename_i i k0 r
      cases hg : Nat.beq k0 26 <;> rw [hg] at h
      · exact nomatch h
      · cases hg2 : cf_in i Ls <;> rw [hg2] at h <;> exact nomatch h
    · cases h
theorem cf_SL_sln (hd : decode cc pc = .ok (.arraylength, 1)) : cf_SL xs Ls l R cc nL own pc (cf_sln Ls (pc + 1)) := by
  intro Z hC hX L st w
  obtain ⟨p, e, s, m, args, below, meth, c, cells, slots, Q, D, cA, ad, A⟩ := Z
  obtain ⟨hx, hb, hml, hown, hB, hK, hD, hc1, hc2⟩ := hC
  obtain ⟨hX1, hX2, hX3⟩ := hX
  refine ⟨fun b h k => ?_, fun q h => ?_⟩
  · unfold cf_sln at h
    split at h
    · rename_i k0 r
      cases hg : Nat.beq k0 26 with
      | false => rw [hg] at h; exact nomatch h
      | true =>
        rw [hg] at h
        have e9 : k0 = 26 := Nat.eq_of_beq_eq_true hg
        subst e9
        obtain rfl := Sum.inl.inj (Option.some.inj h)
        intro H locs ls hL hP hS
        exact va_slen hx hb hX1 hX2 hX3 hS hd (k H locs ls hL hP hS)
    · cases h
  · unfold cf_sln at h
    split at h
    · rename_i k0 r
      cases hg : Nat.beq k0 26 <;> rw [hg] at h <;> exact nomatch h
    · cases h
theorem cf_run_law {T : Nat → cf_Rw} {Z : cf_Z} {a : cf_Cfg} {q : cf_Rs} (hC : cf_C R cc nL own Z) (hX : cf_XX xs Ls Z) (hT : ∀ pc, cf_SL xs Ls l R cc nL own pc (T pc)) (hr : cf_Runs T a q) (hfin : cf_Fin l R cc Z q) : cf_R l R nL Z a :=
  hr (cf_R l R nL Z) (fun a b h k => (hT a.1 Z hC hX a.2.1 a.2.2.1 a.2.2.2).1 b h k) (fun a h => (hT a.1 Z hC hX a.2.1 a.2.2.1 a.2.2.2).2 q h hfin)
end LawRows

noncomputable def T_law (xs : Nat → Int32) (Ls : Nat) (pc : Nat) : cf_Rw := bif Nat.ble pc 271 then
 (bif Nat.ble pc 184 then
  (bif Nat.ble pc 142 then
   (bif Nat.ble pc 122 then
    (bif Nat.ble pc 23 then
     (bif Nat.ble pc 19 then
      (bif Nat.ble pc 17 then
       (bif Nat.ble pc 16 then
        (bif Nat.beq pc 16 then cf_const 0 17 else cf_stuck)
        else
        (bif Nat.beq pc 17 then cf_istore 3 18 else cf_stuck))
       else
       (bif Nat.ble pc 18 then
        (bif Nat.beq pc 18 then cf_iload 3 19 else cf_stuck)
        else
        (bif Nat.beq pc 19 then cf_aload 0 20 else cf_stuck)))
      else
      (bif Nat.ble pc 21 then
       (bif Nat.ble pc 20 then
        (bif Nat.beq pc 20 then cf_sln Ls 21 else cf_stuck)
        else
        (bif Nat.beq pc 21 then cf_const 4 22 else cf_stuck))
       else
       (bif Nat.ble pc 22 then
        (bif Nat.beq pc 22 then cf_bin (fun x y => x - y) 23 else cf_stuck)
        else
        (bif Nat.beq pc 23 then cf_icgt 500 26 else cf_stuck))))
     else
     (bif Nat.ble pc 29 then
      (bif Nat.ble pc 27 then
       (bif Nat.ble pc 26 then
        (bif Nat.beq pc 26 then cf_aload 0 27 else cf_stuck)
        else
        (bif Nat.beq pc 27 then cf_iload 3 28 else cf_stuck))
       else
       (bif Nat.ble pc 28 then
        (bif Nat.beq pc 28 then cf_sld xs Ls 29 else cf_stuck)
        else
        (bif Nat.beq pc 29 then cf_const 31 31 else cf_stuck)))
      else
      (bif Nat.ble pc 32 then
       (bif Nat.ble pc 31 then
        (bif Nat.beq pc 31 then cf_bin (fun x y => x &&& y) 32 else cf_stuck)
        else
        (bif Nat.beq pc 32 then cf_tsw 0 17 494 [120, 153, 196, 229, 262, 305, 318, 331, 344, 357, 370, 383, 406, 419, 432, 455, 468, 481] else cf_stuck))
       else
       (bif Nat.ble pc 120 then
        (bif Nat.beq pc 120 then cf_aload 1 121 else cf_stuck)
        else
        (bif Nat.ble pc 121 then
         (bif Nat.beq pc 121 then cf_aload 0 122 else cf_stuck)
         else
         (bif Nat.beq pc 122 then cf_iload 3 123 else cf_stuck))))))
    else
    (bif Nat.ble pc 131 then
     (bif Nat.ble pc 126 then
      (bif Nat.ble pc 124 then
       (bif Nat.ble pc 123 then
        (bif Nat.beq pc 123 then cf_const 1 124 else cf_stuck)
        else
        (bif Nat.beq pc 124 then cf_bin (fun x y => x + y) 125 else cf_stuck))
       else
       (bif Nat.ble pc 125 then
        (bif Nat.beq pc 125 then cf_sld xs Ls 126 else cf_stuck)
        else
        (bif Nat.beq pc 126 then cf_aload 0 127 else cf_stuck)))
      else
      (bif Nat.ble pc 128 then
       (bif Nat.ble pc 127 then
        (bif Nat.beq pc 127 then cf_iload 3 128 else cf_stuck)
        else
        (bif Nat.beq pc 128 then cf_const 2 129 else cf_stuck))
       else
       (bif Nat.ble pc 129 then
        (bif Nat.beq pc 129 then cf_bin (fun x y => x + y) 130 else cf_stuck)
        else
        (bif Nat.ble pc 130 then
         (bif Nat.beq pc 130 then cf_sld xs Ls 131 else cf_stuck)
         else
         (bif Nat.beq pc 131 then cf_call 3 F_C_commit 134 else cf_stuck)))))
     else
     (bif Nat.ble pc 137 then
      (bif Nat.ble pc 135 then
       (bif Nat.ble pc 134 then
        (bif Nat.beq pc 134 then cf_aload 2 135 else cf_stuck)
        else
        (bif Nat.beq pc 135 then cf_aload 0 136 else cf_stuck))
       else
       (bif Nat.ble pc 136 then
        (bif Nat.beq pc 136 then cf_iload 3 137 else cf_stuck)
        else
        (bif Nat.beq pc 137 then cf_const 1 138 else cf_stuck)))
      else
      (bif Nat.ble pc 139 then
       (bif Nat.ble pc 138 then
        (bif Nat.beq pc 138 then cf_bin (fun x y => x + y) 139 else cf_stuck)
        else
        (bif Nat.beq pc 139 then cf_sld xs Ls 140 else cf_stuck))
       else
       (bif Nat.ble pc 140 then
        (bif Nat.beq pc 140 then cf_aload 0 141 else cf_stuck)
        else
        (bif Nat.ble pc 141 then
         (bif Nat.beq pc 141 then cf_iload 3 142 else cf_stuck)
         else
         (bif Nat.beq pc 142 then cf_const 2 143 else cf_stuck)))))))
   else
   (bif Nat.ble pc 164 then
    (bif Nat.ble pc 155 then
     (bif Nat.ble pc 148 then
      (bif Nat.ble pc 144 then
       (bif Nat.ble pc 143 then
        (bif Nat.beq pc 143 then cf_bin (fun x y => x + y) 144 else cf_stuck)
        else
        (bif Nat.beq pc 144 then cf_sld xs Ls 145 else cf_stuck))
       else
       (bif Nat.ble pc 145 then
        (bif Nat.beq pc 145 then cf_call 3 F_P_commit 148 else cf_stuck)
        else
        (bif Nat.beq pc 148 then cf_iceq 494 151 else cf_stuck)))
      else
      (bif Nat.ble pc 152 then
       (bif Nat.ble pc 151 then
        (bif Nat.beq pc 151 then cf_const 0 152 else cf_stuck)
        else
        (bif Nat.beq pc 152 then cf_iret else cf_stuck))
       else
       (bif Nat.ble pc 153 then
        (bif Nat.beq pc 153 then cf_aload 1 154 else cf_stuck)
        else
        (bif Nat.ble pc 154 then
         (bif Nat.beq pc 154 then cf_aload 0 155 else cf_stuck)
         else
         (bif Nat.beq pc 155 then cf_iload 3 156 else cf_stuck)))))
     else
     (bif Nat.ble pc 159 then
      (bif Nat.ble pc 157 then
       (bif Nat.ble pc 156 then
        (bif Nat.beq pc 156 then cf_const 1 157 else cf_stuck)
        else
        (bif Nat.beq pc 157 then cf_bin (fun x y => x + y) 158 else cf_stuck))
       else
       (bif Nat.ble pc 158 then
        (bif Nat.beq pc 158 then cf_sld xs Ls 159 else cf_stuck)
        else
        (bif Nat.beq pc 159 then cf_aload 0 160 else cf_stuck)))
      else
      (bif Nat.ble pc 161 then
       (bif Nat.ble pc 160 then
        (bif Nat.beq pc 160 then cf_iload 3 161 else cf_stuck)
        else
        (bif Nat.beq pc 161 then cf_const 2 162 else cf_stuck))
       else
       (bif Nat.ble pc 162 then
        (bif Nat.beq pc 162 then cf_bin (fun x y => x + y) 163 else cf_stuck)
        else
        (bif Nat.ble pc 163 then
         (bif Nat.beq pc 163 then cf_sld xs Ls 164 else cf_stuck)
         else
         (bif Nat.beq pc 164 then cf_aload 0 165 else cf_stuck))))))
    else
    (bif Nat.ble pc 175 then
     (bif Nat.ble pc 168 then
      (bif Nat.ble pc 166 then
       (bif Nat.ble pc 165 then
        (bif Nat.beq pc 165 then cf_iload 3 166 else cf_stuck)
        else
        (bif Nat.beq pc 166 then cf_const 3 167 else cf_stuck))
       else
       (bif Nat.ble pc 167 then
        (bif Nat.beq pc 167 then cf_bin (fun x y => x + y) 168 else cf_stuck)
        else
        (bif Nat.beq pc 168 then cf_sld xs Ls 169 else cf_stuck)))
      else
      (bif Nat.ble pc 172 then
       (bif Nat.ble pc 169 then
        (bif Nat.beq pc 169 then cf_call 4 F_C_write 172 else cf_stuck)
        else
        (bif Nat.beq pc 172 then cf_aload 2 173 else cf_stuck))
       else
       (bif Nat.ble pc 173 then
        (bif Nat.beq pc 173 then cf_aload 0 174 else cf_stuck)
        else
        (bif Nat.ble pc 174 then
         (bif Nat.beq pc 174 then cf_iload 3 175 else cf_stuck)
         else
         (bif Nat.beq pc 175 then cf_const 1 176 else cf_stuck)))))
     else
     (bif Nat.ble pc 179 then
      (bif Nat.ble pc 177 then
       (bif Nat.ble pc 176 then
        (bif Nat.beq pc 176 then cf_bin (fun x y => x + y) 177 else cf_stuck)
        else
        (bif Nat.beq pc 177 then cf_sld xs Ls 178 else cf_stuck))
       else
       (bif Nat.ble pc 178 then
        (bif Nat.beq pc 178 then cf_aload 0 179 else cf_stuck)
        else
        (bif Nat.beq pc 179 then cf_iload 3 180 else cf_stuck)))
      else
      (bif Nat.ble pc 181 then
       (bif Nat.ble pc 180 then
        (bif Nat.beq pc 180 then cf_const 2 181 else cf_stuck)
        else
        (bif Nat.beq pc 181 then cf_bin (fun x y => x + y) 182 else cf_stuck))
       else
       (bif Nat.ble pc 182 then
        (bif Nat.beq pc 182 then cf_sld xs Ls 183 else cf_stuck)
        else
        (bif Nat.ble pc 183 then
         (bif Nat.beq pc 183 then cf_aload 0 184 else cf_stuck)
         else
         (bif Nat.beq pc 184 then cf_iload 3 185 else cf_stuck))))))))
  else
  (bif Nat.ble pc 229 then
   (bif Nat.ble pc 205 then
    (bif Nat.ble pc 196 then
     (bif Nat.ble pc 188 then
      (bif Nat.ble pc 186 then
       (bif Nat.ble pc 185 then
        (bif Nat.beq pc 185 then cf_const 3 186 else cf_stuck)
        else
        (bif Nat.beq pc 186 then cf_bin (fun x y => x + y) 187 else cf_stuck))
       else
       (bif Nat.ble pc 187 then
        (bif Nat.beq pc 187 then cf_sld xs Ls 188 else cf_stuck)
        else
        (bif Nat.beq pc 188 then cf_call 4 F_P_write 191 else cf_stuck)))
      else
      (bif Nat.ble pc 194 then
       (bif Nat.ble pc 191 then
        (bif Nat.beq pc 191 then cf_iceq 494 194 else cf_stuck)
        else
        (bif Nat.beq pc 194 then cf_const 0 195 else cf_stuck))
       else
       (bif Nat.ble pc 195 then
        (bif Nat.beq pc 195 then cf_iret else cf_stuck)
        else
        (bif Nat.beq pc 196 then cf_aload 1 197 else cf_stuck))))
     else
     (bif Nat.ble pc 200 then
      (bif Nat.ble pc 198 then
       (bif Nat.ble pc 197 then
        (bif Nat.beq pc 197 then cf_aload 0 198 else cf_stuck)
        else
        (bif Nat.beq pc 198 then cf_iload 3 199 else cf_stuck))
       else
       (bif Nat.ble pc 199 then
        (bif Nat.beq pc 199 then cf_const 1 200 else cf_stuck)
        else
        (bif Nat.beq pc 200 then cf_bin (fun x y => x + y) 201 else cf_stuck)))
      else
      (bif Nat.ble pc 202 then
       (bif Nat.ble pc 201 then
        (bif Nat.beq pc 201 then cf_sld xs Ls 202 else cf_stuck)
        else
        (bif Nat.beq pc 202 then cf_aload 0 203 else cf_stuck))
       else
       (bif Nat.ble pc 203 then
        (bif Nat.beq pc 203 then cf_iload 3 204 else cf_stuck)
        else
        (bif Nat.ble pc 204 then
         (bif Nat.beq pc 204 then cf_const 2 205 else cf_stuck)
         else
         (bif Nat.beq pc 205 then cf_bin (fun x y => x + y) 206 else cf_stuck))))))
    else
    (bif Nat.ble pc 216 then
     (bif Nat.ble pc 211 then
      (bif Nat.ble pc 207 then
       (bif Nat.ble pc 206 then
        (bif Nat.beq pc 206 then cf_sld xs Ls 207 else cf_stuck)
        else
        (bif Nat.beq pc 207 then cf_call 3 F_C_line 210 else cf_stuck))
       else
       (bif Nat.ble pc 210 then
        (bif Nat.beq pc 210 then cf_aload 2 211 else cf_stuck)
        else
        (bif Nat.beq pc 211 then cf_aload 0 212 else cf_stuck)))
      else
      (bif Nat.ble pc 213 then
       (bif Nat.ble pc 212 then
        (bif Nat.beq pc 212 then cf_iload 3 213 else cf_stuck)
        else
        (bif Nat.beq pc 213 then cf_const 1 214 else cf_stuck))
       else
       (bif Nat.ble pc 214 then
        (bif Nat.beq pc 214 then cf_bin (fun x y => x + y) 215 else cf_stuck)
        else
        (bif Nat.ble pc 215 then
         (bif Nat.beq pc 215 then cf_sld xs Ls 216 else cf_stuck)
         else
         (bif Nat.beq pc 216 then cf_aload 0 217 else cf_stuck)))))
     else
     (bif Nat.ble pc 220 then
      (bif Nat.ble pc 218 then
       (bif Nat.ble pc 217 then
        (bif Nat.beq pc 217 then cf_iload 3 218 else cf_stuck)
        else
        (bif Nat.beq pc 218 then cf_const 2 219 else cf_stuck))
       else
       (bif Nat.ble pc 219 then
        (bif Nat.beq pc 219 then cf_bin (fun x y => x + y) 220 else cf_stuck)
        else
        (bif Nat.beq pc 220 then cf_sld xs Ls 221 else cf_stuck)))
      else
      (bif Nat.ble pc 224 then
       (bif Nat.ble pc 221 then
        (bif Nat.beq pc 221 then cf_call 3 F_P_line 224 else cf_stuck)
        else
        (bif Nat.beq pc 224 then cf_iceq 494 227 else cf_stuck))
       else
       (bif Nat.ble pc 227 then
        (bif Nat.beq pc 227 then cf_const 0 228 else cf_stuck)
        else
        (bif Nat.ble pc 228 then
         (bif Nat.beq pc 228 then cf_iret else cf_stuck)
         else
         (bif Nat.beq pc 229 then cf_aload 1 230 else cf_stuck)))))))
   else
   (bif Nat.ble pc 249 then
    (bif Nat.ble pc 238 then
     (bif Nat.ble pc 233 then
      (bif Nat.ble pc 231 then
       (bif Nat.ble pc 230 then
        (bif Nat.beq pc 230 then cf_aload 0 231 else cf_stuck)
        else
        (bif Nat.beq pc 231 then cf_iload 3 232 else cf_stuck))
       else
       (bif Nat.ble pc 232 then
        (bif Nat.beq pc 232 then cf_const 1 233 else cf_stuck)
        else
        (bif Nat.beq pc 233 then cf_bin (fun x y => x + y) 234 else cf_stuck)))
      else
      (bif Nat.ble pc 235 then
       (bif Nat.ble pc 234 then
        (bif Nat.beq pc 234 then cf_sld xs Ls 235 else cf_stuck)
        else
        (bif Nat.beq pc 235 then cf_aload 0 236 else cf_stuck))
       else
       (bif Nat.ble pc 236 then
        (bif Nat.beq pc 236 then cf_iload 3 237 else cf_stuck)
        else
        (bif Nat.ble pc 237 then
         (bif Nat.beq pc 237 then cf_const 2 238 else cf_stuck)
         else
         (bif Nat.beq pc 238 then cf_bin (fun x y => x + y) 239 else cf_stuck)))))
     else
     (bif Nat.ble pc 244 then
      (bif Nat.ble pc 240 then
       (bif Nat.ble pc 239 then
        (bif Nat.beq pc 239 then cf_sld xs Ls 240 else cf_stuck)
        else
        (bif Nat.beq pc 240 then cf_call 3 F_C_verdict 243 else cf_stuck))
       else
       (bif Nat.ble pc 243 then
        (bif Nat.beq pc 243 then cf_aload 2 244 else cf_stuck)
        else
        (bif Nat.beq pc 244 then cf_aload 0 245 else cf_stuck)))
      else
      (bif Nat.ble pc 246 then
       (bif Nat.ble pc 245 then
        (bif Nat.beq pc 245 then cf_iload 3 246 else cf_stuck)
        else
        (bif Nat.beq pc 246 then cf_const 1 247 else cf_stuck))
       else
       (bif Nat.ble pc 247 then
        (bif Nat.beq pc 247 then cf_bin (fun x y => x + y) 248 else cf_stuck)
        else
        (bif Nat.ble pc 248 then
         (bif Nat.beq pc 248 then cf_sld xs Ls 249 else cf_stuck)
         else
         (bif Nat.beq pc 249 then cf_aload 0 250 else cf_stuck))))))
    else
    (bif Nat.ble pc 262 then
     (bif Nat.ble pc 253 then
      (bif Nat.ble pc 251 then
       (bif Nat.ble pc 250 then
        (bif Nat.beq pc 250 then cf_iload 3 251 else cf_stuck)
        else
        (bif Nat.beq pc 251 then cf_const 2 252 else cf_stuck))
       else
       (bif Nat.ble pc 252 then
        (bif Nat.beq pc 252 then cf_bin (fun x y => x + y) 253 else cf_stuck)
        else
        (bif Nat.beq pc 253 then cf_sld xs Ls 254 else cf_stuck)))
      else
      (bif Nat.ble pc 257 then
       (bif Nat.ble pc 254 then
        (bif Nat.beq pc 254 then cf_call 3 F_P_verdict 257 else cf_stuck)
        else
        (bif Nat.beq pc 257 then cf_iceq 494 260 else cf_stuck))
       else
       (bif Nat.ble pc 260 then
        (bif Nat.beq pc 260 then cf_const 0 261 else cf_stuck)
        else
        (bif Nat.ble pc 261 then
         (bif Nat.beq pc 261 then cf_iret else cf_stuck)
         else
         (bif Nat.beq pc 262 then cf_aload 1 263 else cf_stuck)))))
     else
     (bif Nat.ble pc 266 then
      (bif Nat.ble pc 264 then
       (bif Nat.ble pc 263 then
        (bif Nat.beq pc 263 then cf_aload 0 264 else cf_stuck)
        else
        (bif Nat.beq pc 264 then cf_iload 3 265 else cf_stuck))
       else
       (bif Nat.ble pc 265 then
        (bif Nat.beq pc 265 then cf_const 1 266 else cf_stuck)
        else
        (bif Nat.beq pc 266 then cf_bin (fun x y => x + y) 267 else cf_stuck)))
      else
      (bif Nat.ble pc 268 then
       (bif Nat.ble pc 267 then
        (bif Nat.beq pc 267 then cf_sld xs Ls 268 else cf_stuck)
        else
        (bif Nat.beq pc 268 then cf_aload 0 269 else cf_stuck))
       else
       (bif Nat.ble pc 269 then
        (bif Nat.beq pc 269 then cf_iload 3 270 else cf_stuck)
        else
        (bif Nat.ble pc 270 then
         (bif Nat.beq pc 270 then cf_const 2 271 else cf_stuck)
         else
         (bif Nat.beq pc 271 then cf_bin (fun x y => x + y) 272 else cf_stuck)))))))))
 else
 (bif Nat.ble pc 384 then
  (bif Nat.ble pc 318 then
   (bif Nat.ble pc 290 then
    (bif Nat.ble pc 281 then
     (bif Nat.ble pc 275 then
      (bif Nat.ble pc 273 then
       (bif Nat.ble pc 272 then
        (bif Nat.beq pc 272 then cf_sld xs Ls 273 else cf_stuck)
        else
        (bif Nat.beq pc 273 then cf_aload 0 274 else cf_stuck))
       else
       (bif Nat.ble pc 274 then
        (bif Nat.beq pc 274 then cf_iload 3 275 else cf_stuck)
        else
        (bif Nat.beq pc 275 then cf_const 3 276 else cf_stuck)))
      else
      (bif Nat.ble pc 277 then
       (bif Nat.ble pc 276 then
        (bif Nat.beq pc 276 then cf_bin (fun x y => x + y) 277 else cf_stuck)
        else
        (bif Nat.beq pc 277 then cf_sld xs Ls 278 else cf_stuck))
       else
       (bif Nat.ble pc 278 then
        (bif Nat.beq pc 278 then cf_call 4 F_C_begin 281 else cf_stuck)
        else
        (bif Nat.beq pc 281 then cf_aload 2 282 else cf_stuck))))
     else
     (bif Nat.ble pc 285 then
      (bif Nat.ble pc 283 then
       (bif Nat.ble pc 282 then
        (bif Nat.beq pc 282 then cf_aload 0 283 else cf_stuck)
        else
        (bif Nat.beq pc 283 then cf_iload 3 284 else cf_stuck))
       else
       (bif Nat.ble pc 284 then
        (bif Nat.beq pc 284 then cf_const 1 285 else cf_stuck)
        else
        (bif Nat.beq pc 285 then cf_bin (fun x y => x + y) 286 else cf_stuck)))
      else
      (bif Nat.ble pc 287 then
       (bif Nat.ble pc 286 then
        (bif Nat.beq pc 286 then cf_sld xs Ls 287 else cf_stuck)
        else
        (bif Nat.beq pc 287 then cf_aload 0 288 else cf_stuck))
       else
       (bif Nat.ble pc 288 then
        (bif Nat.beq pc 288 then cf_iload 3 289 else cf_stuck)
        else
        (bif Nat.ble pc 289 then
         (bif Nat.beq pc 289 then cf_const 2 290 else cf_stuck)
         else
         (bif Nat.beq pc 290 then cf_bin (fun x y => x + y) 291 else cf_stuck))))))
    else
    (bif Nat.ble pc 303 then
     (bif Nat.ble pc 294 then
      (bif Nat.ble pc 292 then
       (bif Nat.ble pc 291 then
        (bif Nat.beq pc 291 then cf_sld xs Ls 292 else cf_stuck)
        else
        (bif Nat.beq pc 292 then cf_aload 0 293 else cf_stuck))
       else
       (bif Nat.ble pc 293 then
        (bif Nat.beq pc 293 then cf_iload 3 294 else cf_stuck)
        else
        (bif Nat.beq pc 294 then cf_const 3 295 else cf_stuck)))
      else
      (bif Nat.ble pc 296 then
       (bif Nat.ble pc 295 then
        (bif Nat.beq pc 295 then cf_bin (fun x y => x + y) 296 else cf_stuck)
        else
        (bif Nat.beq pc 296 then cf_sld xs Ls 297 else cf_stuck))
       else
       (bif Nat.ble pc 297 then
        (bif Nat.beq pc 297 then cf_call 4 F_P_begin 300 else cf_stuck)
        else
        (bif Nat.ble pc 300 then
         (bif Nat.beq pc 300 then cf_iceq 494 303 else cf_stuck)
         else
         (bif Nat.beq pc 303 then cf_const 0 304 else cf_stuck)))))
     else
     (bif Nat.ble pc 309 then
      (bif Nat.ble pc 305 then
       (bif Nat.ble pc 304 then
        (bif Nat.beq pc 304 then cf_iret else cf_stuck)
        else
        (bif Nat.beq pc 305 then cf_aload 1 306 else cf_stuck))
       else
       (bif Nat.ble pc 306 then
        (bif Nat.beq pc 306 then cf_call 1 F_C_end 309 else cf_stuck)
        else
        (bif Nat.beq pc 309 then cf_aload 2 310 else cf_stuck)))
      else
      (bif Nat.ble pc 313 then
       (bif Nat.ble pc 310 then
        (bif Nat.beq pc 310 then cf_call 1 F_P_end 313 else cf_stuck)
        else
        (bif Nat.beq pc 313 then cf_iceq 494 316 else cf_stuck))
       else
       (bif Nat.ble pc 316 then
        (bif Nat.beq pc 316 then cf_const 0 317 else cf_stuck)
        else
        (bif Nat.ble pc 317 then
         (bif Nat.beq pc 317 then cf_iret else cf_stuck)
         else
         (bif Nat.beq pc 318 then cf_aload 1 319 else cf_stuck)))))))
   else
   (bif Nat.ble pc 352 then
    (bif Nat.ble pc 335 then
     (bif Nat.ble pc 326 then
      (bif Nat.ble pc 322 then
       (bif Nat.ble pc 319 then
        (bif Nat.beq pc 319 then cf_call 1 F_C_next 322 else cf_stuck)
        else
        (bif Nat.beq pc 322 then cf_aload 2 323 else cf_stuck))
       else
       (bif Nat.ble pc 323 then
        (bif Nat.beq pc 323 then cf_call 1 F_P_next 326 else cf_stuck)
        else
        (bif Nat.beq pc 326 then cf_iceq 494 329 else cf_stuck)))
      else
      (bif Nat.ble pc 330 then
       (bif Nat.ble pc 329 then
        (bif Nat.beq pc 329 then cf_const 0 330 else cf_stuck)
        else
        (bif Nat.beq pc 330 then cf_iret else cf_stuck))
       else
       (bif Nat.ble pc 331 then
        (bif Nat.beq pc 331 then cf_aload 1 332 else cf_stuck)
        else
        (bif Nat.ble pc 332 then
         (bif Nat.beq pc 332 then cf_call 1 F_C_start 335 else cf_stuck)
         else
         (bif Nat.beq pc 335 then cf_aload 2 336 else cf_stuck)))))
     else
     (bif Nat.ble pc 343 then
      (bif Nat.ble pc 339 then
       (bif Nat.ble pc 336 then
        (bif Nat.beq pc 336 then cf_call 1 F_P_start 339 else cf_stuck)
        else
        (bif Nat.beq pc 339 then cf_iceq 494 342 else cf_stuck))
       else
       (bif Nat.ble pc 342 then
        (bif Nat.beq pc 342 then cf_const 0 343 else cf_stuck)
        else
        (bif Nat.beq pc 343 then cf_iret else cf_stuck)))
      else
      (bif Nat.ble pc 345 then
       (bif Nat.ble pc 344 then
        (bif Nat.beq pc 344 then cf_aload 1 345 else cf_stuck)
        else
        (bif Nat.beq pc 345 then cf_call 1 F_C_finish 348 else cf_stuck))
       else
       (bif Nat.ble pc 348 then
        (bif Nat.beq pc 348 then cf_aload 2 349 else cf_stuck)
        else
        (bif Nat.ble pc 349 then
         (bif Nat.beq pc 349 then cf_call 1 F_P_finish 352 else cf_stuck)
         else
         (bif Nat.beq pc 352 then cf_iceq 494 355 else cf_stuck))))))
    else
    (bif Nat.ble pc 369 then
     (bif Nat.ble pc 358 then
      (bif Nat.ble pc 356 then
       (bif Nat.ble pc 355 then
        (bif Nat.beq pc 355 then cf_const 0 356 else cf_stuck)
        else
        (bif Nat.beq pc 356 then cf_iret else cf_stuck))
       else
       (bif Nat.ble pc 357 then
        (bif Nat.beq pc 357 then cf_aload 1 358 else cf_stuck)
        else
        (bif Nat.beq pc 358 then cf_call 1 F_C_crash 361 else cf_stuck)))
      else
      (bif Nat.ble pc 362 then
       (bif Nat.ble pc 361 then
        (bif Nat.beq pc 361 then cf_aload 2 362 else cf_stuck)
        else
        (bif Nat.beq pc 362 then cf_call 1 F_P_crash 365 else cf_stuck))
       else
       (bif Nat.ble pc 365 then
        (bif Nat.beq pc 365 then cf_iceq 494 368 else cf_stuck)
        else
        (bif Nat.ble pc 368 then
         (bif Nat.beq pc 368 then cf_const 0 369 else cf_stuck)
         else
         (bif Nat.beq pc 369 then cf_iret else cf_stuck)))))
     else
     (bif Nat.ble pc 375 then
      (bif Nat.ble pc 371 then
       (bif Nat.ble pc 370 then
        (bif Nat.beq pc 370 then cf_aload 1 371 else cf_stuck)
        else
        (bif Nat.beq pc 371 then cf_call 1 F_C_journal 374 else cf_stuck))
       else
       (bif Nat.ble pc 374 then
        (bif Nat.beq pc 374 then cf_aload 2 375 else cf_stuck)
        else
        (bif Nat.beq pc 375 then cf_call 1 F_P_journal 378 else cf_stuck)))
      else
      (bif Nat.ble pc 381 then
       (bif Nat.ble pc 378 then
        (bif Nat.beq pc 378 then cf_iceq 494 381 else cf_stuck)
        else
        (bif Nat.beq pc 381 then cf_const 0 382 else cf_stuck))
       else
       (bif Nat.ble pc 382 then
        (bif Nat.beq pc 382 then cf_iret else cf_stuck)
        else
        (bif Nat.ble pc 383 then
         (bif Nat.beq pc 383 then cf_aload 1 384 else cf_stuck)
         else
         (bif Nat.beq pc 384 then cf_aload 0 385 else cf_stuck))))))))
  else
  (bif Nat.ble pc 437 then
   (bif Nat.ble pc 407 then
    (bif Nat.ble pc 394 then
     (bif Nat.ble pc 388 then
      (bif Nat.ble pc 386 then
       (bif Nat.ble pc 385 then
        (bif Nat.beq pc 385 then cf_iload 3 386 else cf_stuck)
        else
        (bif Nat.beq pc 386 then cf_const 1 387 else cf_stuck))
       else
       (bif Nat.ble pc 387 then
        (bif Nat.beq pc 387 then cf_bin (fun x y => x + y) 388 else cf_stuck)
        else
        (bif Nat.beq pc 388 then cf_sld xs Ls 389 else cf_stuck)))
      else
      (bif Nat.ble pc 392 then
       (bif Nat.ble pc 389 then
        (bif Nat.beq pc 389 then cf_call 2 F_C_entry 392 else cf_stuck)
        else
        (bif Nat.beq pc 392 then cf_aload 2 393 else cf_stuck))
       else
       (bif Nat.ble pc 393 then
        (bif Nat.beq pc 393 then cf_aload 0 394 else cf_stuck)
        else
        (bif Nat.beq pc 394 then cf_iload 3 395 else cf_stuck))))
     else
     (bif Nat.ble pc 398 then
      (bif Nat.ble pc 396 then
       (bif Nat.ble pc 395 then
        (bif Nat.beq pc 395 then cf_const 1 396 else cf_stuck)
        else
        (bif Nat.beq pc 396 then cf_bin (fun x y => x + y) 397 else cf_stuck))
       else
       (bif Nat.ble pc 397 then
        (bif Nat.beq pc 397 then cf_sld xs Ls 398 else cf_stuck)
        else
        (bif Nat.beq pc 398 then cf_call 2 F_P_entry 401 else cf_stuck)))
      else
      (bif Nat.ble pc 404 then
       (bif Nat.ble pc 401 then
        (bif Nat.beq pc 401 then cf_iceq 494 404 else cf_stuck)
        else
        (bif Nat.beq pc 404 then cf_const 0 405 else cf_stuck))
       else
       (bif Nat.ble pc 405 then
        (bif Nat.beq pc 405 then cf_iret else cf_stuck)
        else
        (bif Nat.ble pc 406 then
         (bif Nat.beq pc 406 then cf_aload 1 407 else cf_stuck)
         else
         (bif Nat.beq pc 407 then cf_call 1 F_C_state 410 else cf_stuck))))))
    else
    (bif Nat.ble pc 424 then
     (bif Nat.ble pc 417 then
      (bif Nat.ble pc 411 then
       (bif Nat.ble pc 410 then
        (bif Nat.beq pc 410 then cf_aload 2 411 else cf_stuck)
        else
        (bif Nat.beq pc 411 then cf_call 1 F_P_state 414 else cf_stuck))
       else
       (bif Nat.ble pc 414 then
        (bif Nat.beq pc 414 then cf_iceq 494 417 else cf_stuck)
        else
        (bif Nat.beq pc 417 then cf_const 0 418 else cf_stuck)))
      else
      (bif Nat.ble pc 419 then
       (bif Nat.ble pc 418 then
        (bif Nat.beq pc 418 then cf_iret else cf_stuck)
        else
        (bif Nat.beq pc 419 then cf_aload 1 420 else cf_stuck))
       else
       (bif Nat.ble pc 420 then
        (bif Nat.beq pc 420 then cf_call 1 F_C_suspects 423 else cf_stuck)
        else
        (bif Nat.ble pc 423 then
         (bif Nat.beq pc 423 then cf_aload 2 424 else cf_stuck)
         else
         (bif Nat.beq pc 424 then cf_call 1 F_P_suspects 427 else cf_stuck)))))
     else
     (bif Nat.ble pc 432 then
      (bif Nat.ble pc 430 then
       (bif Nat.ble pc 427 then
        (bif Nat.beq pc 427 then cf_iceq 494 430 else cf_stuck)
        else
        (bif Nat.beq pc 430 then cf_const 0 431 else cf_stuck))
       else
       (bif Nat.ble pc 431 then
        (bif Nat.beq pc 431 then cf_iret else cf_stuck)
        else
        (bif Nat.beq pc 432 then cf_aload 1 433 else cf_stuck)))
      else
      (bif Nat.ble pc 434 then
       (bif Nat.ble pc 433 then
        (bif Nat.beq pc 433 then cf_aload 0 434 else cf_stuck)
        else
        (bif Nat.beq pc 434 then cf_iload 3 435 else cf_stuck))
       else
       (bif Nat.ble pc 435 then
        (bif Nat.beq pc 435 then cf_const 1 436 else cf_stuck)
        else
        (bif Nat.ble pc 436 then
         (bif Nat.beq pc 436 then cf_bin (fun x y => x + y) 437 else cf_stuck)
         else
         (bif Nat.beq pc 437 then cf_sld xs Ls 438 else cf_stuck)))))))
   else
   (bif Nat.ble pc 467 then
    (bif Nat.ble pc 450 then
     (bif Nat.ble pc 443 then
      (bif Nat.ble pc 441 then
       (bif Nat.ble pc 438 then
        (bif Nat.beq pc 438 then cf_call 2 F_C_weight 441 else cf_stuck)
        else
        (bif Nat.beq pc 441 then cf_aload 2 442 else cf_stuck))
       else
       (bif Nat.ble pc 442 then
        (bif Nat.beq pc 442 then cf_aload 0 443 else cf_stuck)
        else
        (bif Nat.beq pc 443 then cf_iload 3 444 else cf_stuck)))
      else
      (bif Nat.ble pc 445 then
       (bif Nat.ble pc 444 then
        (bif Nat.beq pc 444 then cf_const 1 445 else cf_stuck)
        else
        (bif Nat.beq pc 445 then cf_bin (fun x y => x + y) 446 else cf_stuck))
       else
       (bif Nat.ble pc 446 then
        (bif Nat.beq pc 446 then cf_sld xs Ls 447 else cf_stuck)
        else
        (bif Nat.ble pc 447 then
         (bif Nat.beq pc 447 then cf_call 2 F_P_weight 450 else cf_stuck)
         else
         (bif Nat.beq pc 450 then cf_iceq 494 453 else cf_stuck)))))
     else
     (bif Nat.ble pc 456 then
      (bif Nat.ble pc 454 then
       (bif Nat.ble pc 453 then
        (bif Nat.beq pc 453 then cf_const 0 454 else cf_stuck)
        else
        (bif Nat.beq pc 454 then cf_iret else cf_stuck))
       else
       (bif Nat.ble pc 455 then
        (bif Nat.beq pc 455 then cf_aload 1 456 else cf_stuck)
        else
        (bif Nat.beq pc 456 then cf_call 1 F_C_culprit 459 else cf_stuck)))
      else
      (bif Nat.ble pc 460 then
       (bif Nat.ble pc 459 then
        (bif Nat.beq pc 459 then cf_aload 2 460 else cf_stuck)
        else
        (bif Nat.beq pc 460 then cf_call 1 F_P_culprit 463 else cf_stuck))
       else
       (bif Nat.ble pc 463 then
        (bif Nat.beq pc 463 then cf_iceq 494 466 else cf_stuck)
        else
        (bif Nat.ble pc 466 then
         (bif Nat.beq pc 466 then cf_const 0 467 else cf_stuck)
         else
         (bif Nat.beq pc 467 then cf_iret else cf_stuck))))))
    else
    (bif Nat.ble pc 482 then
     (bif Nat.ble pc 473 then
      (bif Nat.ble pc 469 then
       (bif Nat.ble pc 468 then
        (bif Nat.beq pc 468 then cf_aload 1 469 else cf_stuck)
        else
        (bif Nat.beq pc 469 then cf_call 1 F_C_reduced 472 else cf_stuck))
       else
       (bif Nat.ble pc 472 then
        (bif Nat.beq pc 472 then cf_aload 2 473 else cf_stuck)
        else
        (bif Nat.beq pc 473 then cf_call 1 F_P_reduced 476 else cf_stuck)))
      else
      (bif Nat.ble pc 479 then
       (bif Nat.ble pc 476 then
        (bif Nat.beq pc 476 then cf_iceq 494 479 else cf_stuck)
        else
        (bif Nat.beq pc 479 then cf_const 0 480 else cf_stuck))
       else
       (bif Nat.ble pc 480 then
        (bif Nat.beq pc 480 then cf_iret else cf_stuck)
        else
        (bif Nat.ble pc 481 then
         (bif Nat.beq pc 481 then cf_aload 1 482 else cf_stuck)
         else
         (bif Nat.beq pc 482 then cf_call 1 F_C_started 485 else cf_stuck)))))
     else
     (bif Nat.ble pc 492 then
      (bif Nat.ble pc 486 then
       (bif Nat.ble pc 485 then
        (bif Nat.beq pc 485 then cf_aload 2 486 else cf_stuck)
        else
        (bif Nat.beq pc 486 then cf_call 1 F_P_started 489 else cf_stuck))
       else
       (bif Nat.ble pc 489 then
        (bif Nat.beq pc 489 then cf_iceq 494 492 else cf_stuck)
        else
        (bif Nat.beq pc 492 then cf_const 0 493 else cf_stuck)))
      else
      (bif Nat.ble pc 494 then
       (bif Nat.ble pc 493 then
        (bif Nat.beq pc 493 then cf_iret else cf_stuck)
        else
        (bif Nat.beq pc 494 then cf_iinc 3 4 497 else cf_stuck))
       else
       (bif Nat.ble pc 497 then
        (bif Nat.beq pc 497 then cf_goto 18 else cf_stuck)
        else
        (bif Nat.ble pc 500 then
         (bif Nat.beq pc 500 then cf_const 1 501 else cf_stuck)
         else
         (bif Nat.beq pc 501 then cf_iret else cf_stuck)))))))))
set_option maxRecDepth 100000 in
theorem sd_law (xs : Nat → Int32) (Ls : Nat) (l : Launch) (pc : Nat) : cf_SL xs Ls l room_1 code 4 "CulpritFinderLaw" pc (T_law xs Ls pc) := cf_SL_node
 (cf_SL_node
  (cf_SL_node
   (cf_SL_node
    (cf_SL_node
     (cf_SL_node
      (cf_SL_node
       (cf_SL_node
        (cf_SL_leaf (cf_SL_of (cf_S_iconst (n := 0) (by decide +kernel) (by decide))))
        (cf_SL_leaf (cf_SL_of (cf_S_istore_n (j := 3) (by decide +kernel) rfl (by decide)))))
       (cf_SL_node
        (cf_SL_leaf (cf_SL_of (cf_S_iload_n (j := 3) (by decide +kernel) rfl)))
        (cf_SL_leaf (cf_SL_of (cf_S_aload_n (j := 0) (by decide +kernel) rfl)))))
      (cf_SL_node
       (cf_SL_node
        (cf_SL_leaf (cf_SL_sln (by decide +kernel)))
        (cf_SL_leaf (cf_SL_of (cf_S_iconst (n := 4) (by decide +kernel) (by decide)))))
       (cf_SL_node
        (cf_SL_leaf (cf_SL_of (cf_S_isub (by decide +kernel))))
        (cf_SL_leaf (cf_SL_of (cf_S_icgt (off := 477) (by decide +kernel) (by decide)))))))
     (cf_SL_node
      (cf_SL_node
       (cf_SL_node
        (cf_SL_leaf (cf_SL_of (cf_S_aload_n (j := 0) (by decide +kernel) rfl)))
        (cf_SL_leaf (cf_SL_of (cf_S_iload_n (j := 3) (by decide +kernel) rfl))))
       (cf_SL_node
        (cf_SL_leaf (cf_SL_sld (by decide +kernel)))
        (cf_SL_leaf (cf_SL_of (cf_S_bipush (n := 31) (by decide +kernel) (by decide +kernel))))))
      (cf_SL_node
       (cf_SL_node
        (cf_SL_leaf (cf_SL_of (cf_S_iand (by decide +kernel))))
        (cf_SL_leaf (cf_SL_of (cf_S_tsw (len := 88) (d := 462) (offs := #[88, 121, 164, 197, 230, 273, 286, 299, 312, 325, 338, 351, 374, 387, 400, 423, 436, 449]) (by decide +kernel) (by decide) (by decide) (by decide)))))
       (cf_SL_node
        (cf_SL_leaf (cf_SL_of (cf_S_aload_n (j := 1) (by decide +kernel) rfl)))
        (cf_SL_node
         (cf_SL_leaf (cf_SL_of (cf_S_aload_n (j := 0) (by decide +kernel) rfl)))
         (cf_SL_leaf (cf_SL_of (cf_S_iload_n (j := 3) (by decide +kernel) rfl))))))))
    (cf_SL_node
     (cf_SL_node
      (cf_SL_node
       (cf_SL_node
        (cf_SL_leaf (cf_SL_of (cf_S_iconst (n := 1) (by decide +kernel) (by decide))))
        (cf_SL_leaf (cf_SL_of (cf_S_iadd (by decide +kernel)))))
       (cf_SL_node
        (cf_SL_leaf (cf_SL_sld (by decide +kernel)))
        (cf_SL_leaf (cf_SL_of (cf_S_aload_n (j := 0) (by decide +kernel) rfl)))))
      (cf_SL_node
       (cf_SL_node
        (cf_SL_leaf (cf_SL_of (cf_S_iload_n (j := 3) (by decide +kernel) rfl)))
        (cf_SL_leaf (cf_SL_of (cf_S_iconst (n := 2) (by decide +kernel) (by decide)))))
       (cf_SL_node
        (cf_SL_leaf (cf_SL_of (cf_S_iadd (by decide +kernel))))
        (cf_SL_node
         (cf_SL_leaf (cf_SL_sld (by decide +kernel)))
         (cf_SL_leaf (cf_SL_of (cf_S_callV (d := 2) (idx := 13) (ct_C_commit l) sh_C_commit rfl (cf_mem 194 (by decide +kernel)) (cf_mem 191 (by decide +kernel)) (cf_mem 192 (by decide +kernel)) (cf_mem 193 (by decide +kernel)) (cf_mem 36 (by decide +kernel)) ⟨⟨by decide +kernel, by decide +kernel⟩, by decide +kernel⟩ ⟨by decide, by decide⟩ (by decide +kernel))))))))
     (cf_SL_node
      (cf_SL_node
       (cf_SL_node
        (cf_SL_leaf (cf_SL_of (cf_S_aload_n (j := 2) (by decide +kernel) rfl)))
        (cf_SL_leaf (cf_SL_of (cf_S_aload_n (j := 0) (by decide +kernel) rfl))))
       (cf_SL_node
        (cf_SL_leaf (cf_SL_of (cf_S_iload_n (j := 3) (by decide +kernel) rfl)))
        (cf_SL_leaf (cf_SL_of (cf_S_iconst (n := 1) (by decide +kernel) (by decide))))))
      (cf_SL_node
       (cf_SL_node
        (cf_SL_leaf (cf_SL_of (cf_S_iadd (by decide +kernel))))
        (cf_SL_leaf (cf_SL_sld (by decide +kernel))))
       (cf_SL_node
        (cf_SL_leaf (cf_SL_of (cf_S_aload_n (j := 0) (by decide +kernel) rfl)))
        (cf_SL_node
         (cf_SL_leaf (cf_SL_of (cf_S_iload_n (j := 3) (by decide +kernel) rfl)))
         (cf_SL_leaf (cf_SL_of (cf_S_iconst (n := 2) (by decide +kernel) (by decide))))))))))
   (cf_SL_node
    (cf_SL_node
     (cf_SL_node
      (cf_SL_node
       (cf_SL_node
        (cf_SL_leaf (cf_SL_of (cf_S_iadd (by decide +kernel))))
        (cf_SL_leaf (cf_SL_sld (by decide +kernel))))
       (cf_SL_node
        (cf_SL_leaf (cf_SL_of (cf_S_callV (d := 2) (idx := 17) (ct_P_commit l) sh_P_commit rfl (cf_mem 537 (by decide +kernel)) (cf_mem 534 (by decide +kernel)) (cf_mem 535 (by decide +kernel)) (cf_mem 536 (by decide +kernel)) (cf_mem 41 (by decide +kernel)) ⟨⟨by decide +kernel, by decide +kernel⟩, by decide +kernel⟩ ⟨by decide, by decide⟩ (by decide +kernel))))
        (cf_SL_leaf (cf_SL_of (cf_S_iceq (off := 346) (by decide +kernel) (by decide))))))
      (cf_SL_node
       (cf_SL_node
        (cf_SL_leaf (cf_SL_of (cf_S_iconst (n := 0) (by decide +kernel) (by decide))))
        (cf_SL_leaf (cf_SL_of (cf_S_iret (by decide +kernel)))))
       (cf_SL_node
        (cf_SL_leaf (cf_SL_of (cf_S_aload_n (j := 1) (by decide +kernel) rfl)))
        (cf_SL_node
         (cf_SL_leaf (cf_SL_of (cf_S_aload_n (j := 0) (by decide +kernel) rfl)))
         (cf_SL_leaf (cf_SL_of (cf_S_iload_n (j := 3) (by decide +kernel) rfl)))))))
     (cf_SL_node
      (cf_SL_node
       (cf_SL_node
        (cf_SL_leaf (cf_SL_of (cf_S_iconst (n := 1) (by decide +kernel) (by decide))))
        (cf_SL_leaf (cf_SL_of (cf_S_iadd (by decide +kernel)))))
       (cf_SL_node
        (cf_SL_leaf (cf_SL_sld (by decide +kernel)))
        (cf_SL_leaf (cf_SL_of (cf_S_aload_n (j := 0) (by decide +kernel) rfl)))))
      (cf_SL_node
       (cf_SL_node
        (cf_SL_leaf (cf_SL_of (cf_S_iload_n (j := 3) (by decide +kernel) rfl)))
        (cf_SL_leaf (cf_SL_of (cf_S_iconst (n := 2) (by decide +kernel) (by decide)))))
       (cf_SL_node
        (cf_SL_leaf (cf_SL_of (cf_S_iadd (by decide +kernel))))
        (cf_SL_node
         (cf_SL_leaf (cf_SL_sld (by decide +kernel)))
         (cf_SL_leaf (cf_SL_of (cf_S_aload_n (j := 0) (by decide +kernel) rfl))))))))
    (cf_SL_node
     (cf_SL_node
      (cf_SL_node
       (cf_SL_node
        (cf_SL_leaf (cf_SL_of (cf_S_iload_n (j := 3) (by decide +kernel) rfl)))
        (cf_SL_leaf (cf_SL_of (cf_S_iconst (n := 3) (by decide +kernel) (by decide)))))
       (cf_SL_node
        (cf_SL_leaf (cf_SL_of (cf_S_iadd (by decide +kernel))))
        (cf_SL_leaf (cf_SL_sld (by decide +kernel)))))
      (cf_SL_node
       (cf_SL_node
        (cf_SL_leaf (cf_SL_of (cf_S_callV (d := 2) (idx := 18) (ct_C_write l) sh_C_write rfl (cf_mem 217 (by decide +kernel)) (cf_mem 214 (by decide +kernel)) (cf_mem 215 (by decide +kernel)) (cf_mem 216 (by decide +kernel)) (cf_mem 36 (by decide +kernel)) ⟨⟨by decide +kernel, by decide +kernel⟩, by decide +kernel⟩ ⟨by decide, by decide⟩ (by decide +kernel))))
        (cf_SL_leaf (cf_SL_of (cf_S_aload_n (j := 2) (by decide +kernel) rfl))))
       (cf_SL_node
        (cf_SL_leaf (cf_SL_of (cf_S_aload_n (j := 0) (by decide +kernel) rfl)))
        (cf_SL_node
         (cf_SL_leaf (cf_SL_of (cf_S_iload_n (j := 3) (by decide +kernel) rfl)))
         (cf_SL_leaf (cf_SL_of (cf_S_iconst (n := 1) (by decide +kernel) (by decide))))))))
     (cf_SL_node
      (cf_SL_node
       (cf_SL_node
        (cf_SL_leaf (cf_SL_of (cf_S_iadd (by decide +kernel))))
        (cf_SL_leaf (cf_SL_sld (by decide +kernel))))
       (cf_SL_node
        (cf_SL_leaf (cf_SL_of (cf_S_aload_n (j := 0) (by decide +kernel) rfl)))
        (cf_SL_leaf (cf_SL_of (cf_S_iload_n (j := 3) (by decide +kernel) rfl)))))
      (cf_SL_node
       (cf_SL_node
        (cf_SL_leaf (cf_SL_of (cf_S_iconst (n := 2) (by decide +kernel) (by decide))))
        (cf_SL_leaf (cf_SL_of (cf_S_iadd (by decide +kernel)))))
       (cf_SL_node
        (cf_SL_leaf (cf_SL_sld (by decide +kernel)))
        (cf_SL_node
         (cf_SL_leaf (cf_SL_of (cf_S_aload_n (j := 0) (by decide +kernel) rfl)))
         (cf_SL_leaf (cf_SL_of (cf_S_iload_n (j := 3) (by decide +kernel) rfl))))))))))
  (cf_SL_node
   (cf_SL_node
    (cf_SL_node
     (cf_SL_node
      (cf_SL_node
       (cf_SL_node
        (cf_SL_leaf (cf_SL_of (cf_S_iconst (n := 3) (by decide +kernel) (by decide))))
        (cf_SL_leaf (cf_SL_of (cf_S_iadd (by decide +kernel)))))
       (cf_SL_node
        (cf_SL_leaf (cf_SL_sld (by decide +kernel)))
        (cf_SL_leaf (cf_SL_of (cf_S_callV (d := 2) (idx := 22) (ct_P_write l) sh_P_write rfl (cf_mem 548 (by decide +kernel)) (cf_mem 545 (by decide +kernel)) (cf_mem 546 (by decide +kernel)) (cf_mem 547 (by decide +kernel)) (cf_mem 41 (by decide +kernel)) ⟨⟨by decide +kernel, by decide +kernel⟩, by decide +kernel⟩ ⟨by decide, by decide⟩ (by decide +kernel))))))
      (cf_SL_node
       (cf_SL_node
        (cf_SL_leaf (cf_SL_of (cf_S_iceq (off := 303) (by decide +kernel) (by decide))))
        (cf_SL_leaf (cf_SL_of (cf_S_iconst (n := 0) (by decide +kernel) (by decide)))))
       (cf_SL_node
        (cf_SL_leaf (cf_SL_of (cf_S_iret (by decide +kernel))))
        (cf_SL_leaf (cf_SL_of (cf_S_aload_n (j := 1) (by decide +kernel) rfl))))))
     (cf_SL_node
      (cf_SL_node
       (cf_SL_node
        (cf_SL_leaf (cf_SL_of (cf_S_aload_n (j := 0) (by decide +kernel) rfl)))
        (cf_SL_leaf (cf_SL_of (cf_S_iload_n (j := 3) (by decide +kernel) rfl))))
       (cf_SL_node
        (cf_SL_leaf (cf_SL_of (cf_S_iconst (n := 1) (by decide +kernel) (by decide))))
        (cf_SL_leaf (cf_SL_of (cf_S_iadd (by decide +kernel))))))
      (cf_SL_node
       (cf_SL_node
        (cf_SL_leaf (cf_SL_sld (by decide +kernel)))
        (cf_SL_leaf (cf_SL_of (cf_S_aload_n (j := 0) (by decide +kernel) rfl))))
       (cf_SL_node
        (cf_SL_leaf (cf_SL_of (cf_S_iload_n (j := 3) (by decide +kernel) rfl)))
        (cf_SL_node
         (cf_SL_leaf (cf_SL_of (cf_S_iconst (n := 2) (by decide +kernel) (by decide))))
         (cf_SL_leaf (cf_SL_of (cf_S_iadd (by decide +kernel)))))))))
    (cf_SL_node
     (cf_SL_node
      (cf_SL_node
       (cf_SL_node
        (cf_SL_leaf (cf_SL_sld (by decide +kernel)))
        (cf_SL_leaf (cf_SL_of (cf_S_callV (d := 2) (idx := 23) (ct_C_line l) sh_C_line rfl (cf_mem 233 (by decide +kernel)) (cf_mem 230 (by decide +kernel)) (cf_mem 231 (by decide +kernel)) (cf_mem 232 (by decide +kernel)) (cf_mem 36 (by decide +kernel)) ⟨⟨by decide +kernel, by decide +kernel⟩, by decide +kernel⟩ ⟨by decide, by decide⟩ (by decide +kernel)))))
       (cf_SL_node
        (cf_SL_leaf (cf_SL_of (cf_S_aload_n (j := 2) (by decide +kernel) rfl)))
        (cf_SL_leaf (cf_SL_of (cf_S_aload_n (j := 0) (by decide +kernel) rfl)))))
      (cf_SL_node
       (cf_SL_node
        (cf_SL_leaf (cf_SL_of (cf_S_iload_n (j := 3) (by decide +kernel) rfl)))
        (cf_SL_leaf (cf_SL_of (cf_S_iconst (n := 1) (by decide +kernel) (by decide)))))
       (cf_SL_node
        (cf_SL_leaf (cf_SL_of (cf_S_iadd (by decide +kernel))))
        (cf_SL_node
         (cf_SL_leaf (cf_SL_sld (by decide +kernel)))
         (cf_SL_leaf (cf_SL_of (cf_S_aload_n (j := 0) (by decide +kernel) rfl)))))))
     (cf_SL_node
      (cf_SL_node
       (cf_SL_node
        (cf_SL_leaf (cf_SL_of (cf_S_iload_n (j := 3) (by decide +kernel) rfl)))
        (cf_SL_leaf (cf_SL_of (cf_S_iconst (n := 2) (by decide +kernel) (by decide)))))
       (cf_SL_node
        (cf_SL_leaf (cf_SL_of (cf_S_iadd (by decide +kernel))))
        (cf_SL_leaf (cf_SL_sld (by decide +kernel)))))
      (cf_SL_node
       (cf_SL_node
        (cf_SL_leaf (cf_SL_of (cf_S_callV (d := 2) (idx := 26) (ct_P_line l) sh_P_line rfl (cf_mem 552 (by decide +kernel)) (cf_mem 549 (by decide +kernel)) (cf_mem 550 (by decide +kernel)) (cf_mem 551 (by decide +kernel)) (cf_mem 41 (by decide +kernel)) ⟨⟨by decide +kernel, by decide +kernel⟩, by decide +kernel⟩ ⟨by decide, by decide⟩ (by decide +kernel))))
        (cf_SL_leaf (cf_SL_of (cf_S_iceq (off := 270) (by decide +kernel) (by decide)))))
       (cf_SL_node
        (cf_SL_leaf (cf_SL_of (cf_S_iconst (n := 0) (by decide +kernel) (by decide))))
        (cf_SL_node
         (cf_SL_leaf (cf_SL_of (cf_S_iret (by decide +kernel))))
         (cf_SL_leaf (cf_SL_of (cf_S_aload_n (j := 1) (by decide +kernel) rfl)))))))))
   (cf_SL_node
    (cf_SL_node
     (cf_SL_node
      (cf_SL_node
       (cf_SL_node
        (cf_SL_leaf (cf_SL_of (cf_S_aload_n (j := 0) (by decide +kernel) rfl)))
        (cf_SL_leaf (cf_SL_of (cf_S_iload_n (j := 3) (by decide +kernel) rfl))))
       (cf_SL_node
        (cf_SL_leaf (cf_SL_of (cf_S_iconst (n := 1) (by decide +kernel) (by decide))))
        (cf_SL_leaf (cf_SL_of (cf_S_iadd (by decide +kernel))))))
      (cf_SL_node
       (cf_SL_node
        (cf_SL_leaf (cf_SL_sld (by decide +kernel)))
        (cf_SL_leaf (cf_SL_of (cf_S_aload_n (j := 0) (by decide +kernel) rfl))))
       (cf_SL_node
        (cf_SL_leaf (cf_SL_of (cf_S_iload_n (j := 3) (by decide +kernel) rfl)))
        (cf_SL_node
         (cf_SL_leaf (cf_SL_of (cf_S_iconst (n := 2) (by decide +kernel) (by decide))))
         (cf_SL_leaf (cf_SL_of (cf_S_iadd (by decide +kernel))))))))
     (cf_SL_node
      (cf_SL_node
       (cf_SL_node
        (cf_SL_leaf (cf_SL_sld (by decide +kernel)))
        (cf_SL_leaf (cf_SL_of (cf_S_callV (d := 4) (idx := 27) (ct_C_verdict l) sh_C_verdict rfl (cf_mem 241 (by decide +kernel)) (cf_mem 238 (by decide +kernel)) (cf_mem 239 (by decide +kernel)) (cf_mem 240 (by decide +kernel)) (cf_mem 36 (by decide +kernel)) ⟨⟨by decide +kernel, by decide +kernel⟩, by decide +kernel⟩ ⟨by decide, by decide⟩ (by decide +kernel)))))
       (cf_SL_node
        (cf_SL_leaf (cf_SL_of (cf_S_aload_n (j := 2) (by decide +kernel) rfl)))
        (cf_SL_leaf (cf_SL_of (cf_S_aload_n (j := 0) (by decide +kernel) rfl)))))
      (cf_SL_node
       (cf_SL_node
        (cf_SL_leaf (cf_SL_of (cf_S_iload_n (j := 3) (by decide +kernel) rfl)))
        (cf_SL_leaf (cf_SL_of (cf_S_iconst (n := 1) (by decide +kernel) (by decide)))))
       (cf_SL_node
        (cf_SL_leaf (cf_SL_of (cf_S_iadd (by decide +kernel))))
        (cf_SL_node
         (cf_SL_leaf (cf_SL_sld (by decide +kernel)))
         (cf_SL_leaf (cf_SL_of (cf_S_aload_n (j := 0) (by decide +kernel) rfl))))))))
    (cf_SL_node
     (cf_SL_node
      (cf_SL_node
       (cf_SL_node
        (cf_SL_leaf (cf_SL_of (cf_S_iload_n (j := 3) (by decide +kernel) rfl)))
        (cf_SL_leaf (cf_SL_of (cf_S_iconst (n := 2) (by decide +kernel) (by decide)))))
       (cf_SL_node
        (cf_SL_leaf (cf_SL_of (cf_S_iadd (by decide +kernel))))
        (cf_SL_leaf (cf_SL_sld (by decide +kernel)))))
      (cf_SL_node
       (cf_SL_node
        (cf_SL_leaf (cf_SL_of (cf_S_callV (d := 4) (idx := 30) (ct_P_verdict l) sh_P_verdict rfl (cf_mem 556 (by decide +kernel)) (cf_mem 553 (by decide +kernel)) (cf_mem 554 (by decide +kernel)) (cf_mem 555 (by decide +kernel)) (cf_mem 41 (by decide +kernel)) ⟨⟨by decide +kernel, by decide +kernel⟩, by decide +kernel⟩ ⟨by decide, by decide⟩ (by decide +kernel))))
        (cf_SL_leaf (cf_SL_of (cf_S_iceq (off := 237) (by decide +kernel) (by decide)))))
       (cf_SL_node
        (cf_SL_leaf (cf_SL_of (cf_S_iconst (n := 0) (by decide +kernel) (by decide))))
        (cf_SL_node
         (cf_SL_leaf (cf_SL_of (cf_S_iret (by decide +kernel))))
         (cf_SL_leaf (cf_SL_of (cf_S_aload_n (j := 1) (by decide +kernel) rfl)))))))
     (cf_SL_node
      (cf_SL_node
       (cf_SL_node
        (cf_SL_leaf (cf_SL_of (cf_S_aload_n (j := 0) (by decide +kernel) rfl)))
        (cf_SL_leaf (cf_SL_of (cf_S_iload_n (j := 3) (by decide +kernel) rfl))))
       (cf_SL_node
        (cf_SL_leaf (cf_SL_of (cf_S_iconst (n := 1) (by decide +kernel) (by decide))))
        (cf_SL_leaf (cf_SL_of (cf_S_iadd (by decide +kernel))))))
      (cf_SL_node
       (cf_SL_node
        (cf_SL_leaf (cf_SL_sld (by decide +kernel)))
        (cf_SL_leaf (cf_SL_of (cf_S_aload_n (j := 0) (by decide +kernel) rfl))))
       (cf_SL_node
        (cf_SL_leaf (cf_SL_of (cf_S_iload_n (j := 3) (by decide +kernel) rfl)))
        (cf_SL_node
         (cf_SL_leaf (cf_SL_of (cf_S_iconst (n := 2) (by decide +kernel) (by decide))))
         (cf_SL_leaf (cf_SL_of (cf_S_iadd (by decide +kernel))))))))))))
 (cf_SL_node
  (cf_SL_node
   (cf_SL_node
    (cf_SL_node
     (cf_SL_node
      (cf_SL_node
       (cf_SL_node
        (cf_SL_leaf (cf_SL_sld (by decide +kernel)))
        (cf_SL_leaf (cf_SL_of (cf_S_aload_n (j := 0) (by decide +kernel) rfl))))
       (cf_SL_node
        (cf_SL_leaf (cf_SL_of (cf_S_iload_n (j := 3) (by decide +kernel) rfl)))
        (cf_SL_leaf (cf_SL_of (cf_S_iconst (n := 3) (by decide +kernel) (by decide))))))
      (cf_SL_node
       (cf_SL_node
        (cf_SL_leaf (cf_SL_of (cf_S_iadd (by decide +kernel))))
        (cf_SL_leaf (cf_SL_sld (by decide +kernel))))
       (cf_SL_node
        (cf_SL_leaf (cf_SL_of (cf_S_callV (d := 6) (idx := 31) (ct_C_begin l) sh_C_begin rfl (cf_mem 294 (by decide +kernel)) (cf_mem 291 (by decide +kernel)) (cf_mem 292 (by decide +kernel)) (cf_mem 293 (by decide +kernel)) (cf_mem 36 (by decide +kernel)) ⟨⟨by decide +kernel, by decide +kernel⟩, by decide +kernel⟩ ⟨by decide, by decide⟩ (by decide +kernel))))
        (cf_SL_leaf (cf_SL_of (cf_S_aload_n (j := 2) (by decide +kernel) rfl))))))
     (cf_SL_node
      (cf_SL_node
       (cf_SL_node
        (cf_SL_leaf (cf_SL_of (cf_S_aload_n (j := 0) (by decide +kernel) rfl)))
        (cf_SL_leaf (cf_SL_of (cf_S_iload_n (j := 3) (by decide +kernel) rfl))))
       (cf_SL_node
        (cf_SL_leaf (cf_SL_of (cf_S_iconst (n := 1) (by decide +kernel) (by decide))))
        (cf_SL_leaf (cf_SL_of (cf_S_iadd (by decide +kernel))))))
      (cf_SL_node
       (cf_SL_node
        (cf_SL_leaf (cf_SL_sld (by decide +kernel)))
        (cf_SL_leaf (cf_SL_of (cf_S_aload_n (j := 0) (by decide +kernel) rfl))))
       (cf_SL_node
        (cf_SL_leaf (cf_SL_of (cf_S_iload_n (j := 3) (by decide +kernel) rfl)))
        (cf_SL_node
         (cf_SL_leaf (cf_SL_of (cf_S_iconst (n := 2) (by decide +kernel) (by decide))))
         (cf_SL_leaf (cf_SL_of (cf_S_iadd (by decide +kernel)))))))))
    (cf_SL_node
     (cf_SL_node
      (cf_SL_node
       (cf_SL_node
        (cf_SL_leaf (cf_SL_sld (by decide +kernel)))
        (cf_SL_leaf (cf_SL_of (cf_S_aload_n (j := 0) (by decide +kernel) rfl))))
       (cf_SL_node
        (cf_SL_leaf (cf_SL_of (cf_S_iload_n (j := 3) (by decide +kernel) rfl)))
        (cf_SL_leaf (cf_SL_of (cf_S_iconst (n := 3) (by decide +kernel) (by decide))))))
      (cf_SL_node
       (cf_SL_node
        (cf_SL_leaf (cf_SL_of (cf_S_iadd (by decide +kernel))))
        (cf_SL_leaf (cf_SL_sld (by decide +kernel))))
       (cf_SL_node
        (cf_SL_leaf (cf_SL_of (cf_S_callV (d := 2) (idx := 34) (ct_P_begin l) sh_P_begin rfl (cf_mem 592 (by decide +kernel)) (cf_mem 589 (by decide +kernel)) (cf_mem 590 (by decide +kernel)) (cf_mem 591 (by decide +kernel)) (cf_mem 41 (by decide +kernel)) ⟨⟨by decide +kernel, by decide +kernel⟩, by decide +kernel⟩ ⟨by decide, by decide⟩ (by decide +kernel))))
        (cf_SL_node
         (cf_SL_leaf (cf_SL_of (cf_S_iceq (off := 194) (by decide +kernel) (by decide))))
         (cf_SL_leaf (cf_SL_of (cf_S_iconst (n := 0) (by decide +kernel) (by decide))))))))
     (cf_SL_node
      (cf_SL_node
       (cf_SL_node
        (cf_SL_leaf (cf_SL_of (cf_S_iret (by decide +kernel))))
        (cf_SL_leaf (cf_SL_of (cf_S_aload_n (j := 1) (by decide +kernel) rfl))))
       (cf_SL_node
        (cf_SL_leaf (cf_SL_of (cf_S_callV (d := 3) (idx := 35) (ct_C_end l) sh_C_end rfl (cf_mem 380 (by decide +kernel)) (cf_mem 377 (by decide +kernel)) (cf_mem 378 (by decide +kernel)) (cf_mem 379 (by decide +kernel)) (cf_mem 36 (by decide +kernel)) ⟨⟨by decide +kernel, by decide +kernel⟩, by decide +kernel⟩ ⟨by decide, by decide⟩ (by decide +kernel))))
        (cf_SL_leaf (cf_SL_of (cf_S_aload_n (j := 2) (by decide +kernel) rfl)))))
      (cf_SL_node
       (cf_SL_node
        (cf_SL_leaf (cf_SL_of (cf_S_callV (d := 0) (idx := 39) (ct_P_end l) sh_P_end rfl (cf_mem 596 (by decide +kernel)) (cf_mem 593 (by decide +kernel)) (cf_mem 594 (by decide +kernel)) (cf_mem 595 (by decide +kernel)) (cf_mem 41 (by decide +kernel)) ⟨⟨by decide +kernel, by decide +kernel⟩, by decide +kernel⟩ ⟨by decide, by decide⟩ (by decide +kernel))))
        (cf_SL_leaf (cf_SL_of (cf_S_iceq (off := 181) (by decide +kernel) (by decide)))))
       (cf_SL_node
        (cf_SL_leaf (cf_SL_of (cf_S_iconst (n := 0) (by decide +kernel) (by decide))))
        (cf_SL_node
         (cf_SL_leaf (cf_SL_of (cf_S_iret (by decide +kernel))))
         (cf_SL_leaf (cf_SL_of (cf_S_aload_n (j := 1) (by decide +kernel) rfl)))))))))
   (cf_SL_node
    (cf_SL_node
     (cf_SL_node
      (cf_SL_node
       (cf_SL_node
        (cf_SL_leaf (cf_SL_of (cf_S_callV (d := 0) (idx := 40) (ct_C_next l) sh_C_next rfl (cf_mem 385 (by decide +kernel)) (cf_mem 382 (by decide +kernel)) (cf_mem 383 (by decide +kernel)) (cf_mem 384 (by decide +kernel)) (cf_mem 36 (by decide +kernel)) ⟨⟨by decide +kernel, by decide +kernel⟩, by decide +kernel⟩ ⟨by decide, by decide⟩ (by decide +kernel))))
        (cf_SL_leaf (cf_SL_of (cf_S_aload_n (j := 2) (by decide +kernel) rfl))))
       (cf_SL_node
        (cf_SL_leaf (cf_SL_of (cf_S_callV (d := 6) (idx := 44) (ct_P_next l) sh_P_next rfl (cf_mem 600 (by decide +kernel)) (cf_mem 597 (by decide +kernel)) (cf_mem 598 (by decide +kernel)) (cf_mem 599 (by decide +kernel)) (cf_mem 41 (by decide +kernel)) ⟨⟨by decide +kernel, by decide +kernel⟩, by decide +kernel⟩ ⟨by decide, by decide⟩ (by decide +kernel))))
        (cf_SL_leaf (cf_SL_of (cf_S_iceq (off := 168) (by decide +kernel) (by decide))))))
      (cf_SL_node
       (cf_SL_node
        (cf_SL_leaf (cf_SL_of (cf_S_iconst (n := 0) (by decide +kernel) (by decide))))
        (cf_SL_leaf (cf_SL_of (cf_S_iret (by decide +kernel)))))
       (cf_SL_node
        (cf_SL_leaf (cf_SL_of (cf_S_aload_n (j := 1) (by decide +kernel) rfl)))
        (cf_SL_node
         (cf_SL_leaf (cf_SL_of (cf_S_callV (d := 1) (idx := 45) (ct_C_start l) sh_C_start rfl (cf_mem 389 (by decide +kernel)) (cf_mem 386 (by decide +kernel)) (cf_mem 387 (by decide +kernel)) (cf_mem 388 (by decide +kernel)) (cf_mem 36 (by decide +kernel)) ⟨⟨by decide +kernel, by decide +kernel⟩, by decide +kernel⟩ ⟨by decide, by decide⟩ (by decide +kernel))))
         (cf_SL_leaf (cf_SL_of (cf_S_aload_n (j := 2) (by decide +kernel) rfl)))))))
     (cf_SL_node
      (cf_SL_node
       (cf_SL_node
        (cf_SL_leaf (cf_SL_of (cf_S_callV (d := 6) (idx := 48) (ct_P_start l) sh_P_start rfl (cf_mem 650 (by decide +kernel)) (cf_mem 647 (by decide +kernel)) (cf_mem 648 (by decide +kernel)) (cf_mem 649 (by decide +kernel)) (cf_mem 41 (by decide +kernel)) ⟨⟨by decide +kernel, by decide +kernel⟩, by decide +kernel⟩ ⟨by decide, by decide⟩ (by decide +kernel))))
        (cf_SL_leaf (cf_SL_of (cf_S_iceq (off := 155) (by decide +kernel) (by decide)))))
       (cf_SL_node
        (cf_SL_leaf (cf_SL_of (cf_S_iconst (n := 0) (by decide +kernel) (by decide))))
        (cf_SL_leaf (cf_SL_of (cf_S_iret (by decide +kernel))))))
      (cf_SL_node
       (cf_SL_node
        (cf_SL_leaf (cf_SL_of (cf_S_aload_n (j := 1) (by decide +kernel) rfl)))
        (cf_SL_leaf (cf_SL_of (cf_S_callV (d := 6) (idx := 49) (ct_C_finish l) sh_C_finish rfl (cf_mem 397 (by decide +kernel)) (cf_mem 394 (by decide +kernel)) (cf_mem 395 (by decide +kernel)) (cf_mem 396 (by decide +kernel)) (cf_mem 36 (by decide +kernel)) ⟨⟨by decide +kernel, by decide +kernel⟩, by decide +kernel⟩ ⟨by decide, by decide⟩ (by decide +kernel)))))
       (cf_SL_node
        (cf_SL_leaf (cf_SL_of (cf_S_aload_n (j := 2) (by decide +kernel) rfl)))
        (cf_SL_node
         (cf_SL_leaf (cf_SL_of (cf_S_callV (d := 6) (idx := 52) (ct_P_finish l) sh_P_finish rfl (cf_mem 654 (by decide +kernel)) (cf_mem 651 (by decide +kernel)) (cf_mem 652 (by decide +kernel)) (cf_mem 653 (by decide +kernel)) (cf_mem 41 (by decide +kernel)) ⟨⟨by decide +kernel, by decide +kernel⟩, by decide +kernel⟩ ⟨by decide, by decide⟩ (by decide +kernel))))
         (cf_SL_leaf (cf_SL_of (cf_S_iceq (off := 142) (by decide +kernel) (by decide)))))))))
    (cf_SL_node
     (cf_SL_node
      (cf_SL_node
       (cf_SL_node
        (cf_SL_leaf (cf_SL_of (cf_S_iconst (n := 0) (by decide +kernel) (by decide))))
        (cf_SL_leaf (cf_SL_of (cf_S_iret (by decide +kernel)))))
       (cf_SL_node
        (cf_SL_leaf (cf_SL_of (cf_S_aload_n (j := 1) (by decide +kernel) rfl)))
        (cf_SL_leaf (cf_SL_of (cf_S_callV (d := 1) (idx := 53) (ct_C_crash l) sh_C_crash rfl (cf_mem 420 (by decide +kernel)) (cf_mem 417 (by decide +kernel)) (cf_mem 418 (by decide +kernel)) (cf_mem 419 (by decide +kernel)) (cf_mem 36 (by decide +kernel)) ⟨⟨by decide +kernel, by decide +kernel⟩, by decide +kernel⟩ ⟨by decide, by decide⟩ (by decide +kernel))))))
      (cf_SL_node
       (cf_SL_node
        (cf_SL_leaf (cf_SL_of (cf_S_aload_n (j := 2) (by decide +kernel) rfl)))
        (cf_SL_leaf (cf_SL_of (cf_S_callV (d := 0) (idx := 56) (ct_P_crash l) sh_P_crash rfl (cf_mem 662 (by decide +kernel)) (cf_mem 659 (by decide +kernel)) (cf_mem 660 (by decide +kernel)) (cf_mem 661 (by decide +kernel)) (cf_mem 41 (by decide +kernel)) ⟨⟨by decide +kernel, by decide +kernel⟩, by decide +kernel⟩ ⟨by decide, by decide⟩ (by decide +kernel)))))
       (cf_SL_node
        (cf_SL_leaf (cf_SL_of (cf_S_iceq (off := 129) (by decide +kernel) (by decide))))
        (cf_SL_node
         (cf_SL_leaf (cf_SL_of (cf_S_iconst (n := 0) (by decide +kernel) (by decide))))
         (cf_SL_leaf (cf_SL_of (cf_S_iret (by decide +kernel))))))))
     (cf_SL_node
      (cf_SL_node
       (cf_SL_node
        (cf_SL_leaf (cf_SL_of (cf_S_aload_n (j := 1) (by decide +kernel) rfl)))
        (cf_SL_leaf (cf_SL_of (cf_S_callV (d := 0) (idx := 57) (ct_C_journal l) sh_C_journal rfl (cf_mem 425 (by decide +kernel)) (cf_mem 422 (by decide +kernel)) (cf_mem 423 (by decide +kernel)) (cf_mem 424 (by decide +kernel)) (cf_mem 36 (by decide +kernel)) ⟨⟨by decide +kernel, by decide +kernel⟩, by decide +kernel⟩ ⟨by decide, by decide⟩ (by decide +kernel)))))
       (cf_SL_node
        (cf_SL_leaf (cf_SL_of (cf_S_aload_n (j := 2) (by decide +kernel) rfl)))
        (cf_SL_leaf (cf_SL_of (cf_S_callV (d := 0) (idx := 60) (ct_P_journal l) sh_P_journal rfl (cf_mem 666 (by decide +kernel)) (cf_mem 663 (by decide +kernel)) (cf_mem 664 (by decide +kernel)) (cf_mem 665 (by decide +kernel)) (cf_mem 41 (by decide +kernel)) ⟨⟨by decide +kernel, by decide +kernel⟩, by decide +kernel⟩ ⟨by decide, by decide⟩ (by decide +kernel))))))
      (cf_SL_node
       (cf_SL_node
        (cf_SL_leaf (cf_SL_of (cf_S_iceq (off := 116) (by decide +kernel) (by decide))))
        (cf_SL_leaf (cf_SL_of (cf_S_iconst (n := 0) (by decide +kernel) (by decide)))))
       (cf_SL_node
        (cf_SL_leaf (cf_SL_of (cf_S_iret (by decide +kernel))))
        (cf_SL_node
         (cf_SL_leaf (cf_SL_of (cf_S_aload_n (j := 1) (by decide +kernel) rfl)))
         (cf_SL_leaf (cf_SL_of (cf_S_aload_n (j := 0) (by decide +kernel) rfl))))))))))
  (cf_SL_node
   (cf_SL_node
    (cf_SL_node
     (cf_SL_node
      (cf_SL_node
       (cf_SL_node
        (cf_SL_leaf (cf_SL_of (cf_S_iload_n (j := 3) (by decide +kernel) rfl)))
        (cf_SL_leaf (cf_SL_of (cf_S_iconst (n := 1) (by decide +kernel) (by decide)))))
       (cf_SL_node
        (cf_SL_leaf (cf_SL_of (cf_S_iadd (by decide +kernel))))
        (cf_SL_leaf (cf_SL_sld (by decide +kernel)))))
      (cf_SL_node
       (cf_SL_node
        (cf_SL_leaf (cf_SL_of (cf_S_callV (d := 0) (idx := 61) (ct_C_entry l) sh_C_entry rfl (cf_mem 429 (by decide +kernel)) (cf_mem 426 (by decide +kernel)) (cf_mem 427 (by decide +kernel)) (cf_mem 428 (by decide +kernel)) (cf_mem 36 (by decide +kernel)) ⟨⟨by decide +kernel, by decide +kernel⟩, by decide +kernel⟩ ⟨by decide, by decide⟩ (by decide +kernel))))
        (cf_SL_leaf (cf_SL_of (cf_S_aload_n (j := 2) (by decide +kernel) rfl))))
       (cf_SL_node
        (cf_SL_leaf (cf_SL_of (cf_S_aload_n (j := 0) (by decide +kernel) rfl)))
        (cf_SL_leaf (cf_SL_of (cf_S_iload_n (j := 3) (by decide +kernel) rfl))))))
     (cf_SL_node
      (cf_SL_node
       (cf_SL_node
        (cf_SL_leaf (cf_SL_of (cf_S_iconst (n := 1) (by decide +kernel) (by decide))))
        (cf_SL_leaf (cf_SL_of (cf_S_iadd (by decide +kernel)))))
       (cf_SL_node
        (cf_SL_leaf (cf_SL_sld (by decide +kernel)))
        (cf_SL_leaf (cf_SL_of (cf_S_callV (d := 1) (idx := 65) (ct_P_entry l) sh_P_entry rfl (cf_mem 670 (by decide +kernel)) (cf_mem 667 (by decide +kernel)) (cf_mem 668 (by decide +kernel)) (cf_mem 669 (by decide +kernel)) (cf_mem 41 (by decide +kernel)) ⟨⟨by decide +kernel, by decide +kernel⟩, by decide +kernel⟩ ⟨by decide, by decide⟩ (by decide +kernel))))))
      (cf_SL_node
       (cf_SL_node
        (cf_SL_leaf (cf_SL_of (cf_S_iceq (off := 93) (by decide +kernel) (by decide))))
        (cf_SL_leaf (cf_SL_of (cf_S_iconst (n := 0) (by decide +kernel) (by decide)))))
       (cf_SL_node
        (cf_SL_leaf (cf_SL_of (cf_S_iret (by decide +kernel))))
        (cf_SL_node
         (cf_SL_leaf (cf_SL_of (cf_S_aload_n (j := 1) (by decide +kernel) rfl)))
         (cf_SL_leaf (cf_SL_of (cf_S_callV (d := 0) (idx := 66) (ct_C_state l) sh_C_state rfl (cf_mem 433 (by decide +kernel)) (cf_mem 430 (by decide +kernel)) (cf_mem 431 (by decide +kernel)) (cf_mem 432 (by decide +kernel)) (cf_mem 36 (by decide +kernel)) ⟨⟨by decide +kernel, by decide +kernel⟩, by decide +kernel⟩ ⟨by decide, by decide⟩ (by decide +kernel)))))))))
    (cf_SL_node
     (cf_SL_node
      (cf_SL_node
       (cf_SL_node
        (cf_SL_leaf (cf_SL_of (cf_S_aload_n (j := 2) (by decide +kernel) rfl)))
        (cf_SL_leaf (cf_SL_of (cf_S_callV (d := 6) (idx := 69) (ct_P_state l) sh_P_state rfl (cf_mem 674 (by decide +kernel)) (cf_mem 671 (by decide +kernel)) (cf_mem 672 (by decide +kernel)) (cf_mem 673 (by decide +kernel)) (cf_mem 41 (by decide +kernel)) ⟨⟨by decide +kernel, by decide +kernel⟩, by decide +kernel⟩ ⟨by decide, by decide⟩ (by decide +kernel)))))
       (cf_SL_node
        (cf_SL_leaf (cf_SL_of (cf_S_iceq (off := 80) (by decide +kernel) (by decide))))
        (cf_SL_leaf (cf_SL_of (cf_S_iconst (n := 0) (by decide +kernel) (by decide))))))
      (cf_SL_node
       (cf_SL_node
        (cf_SL_leaf (cf_SL_of (cf_S_iret (by decide +kernel))))
        (cf_SL_leaf (cf_SL_of (cf_S_aload_n (j := 1) (by decide +kernel) rfl))))
       (cf_SL_node
        (cf_SL_leaf (cf_SL_of (cf_S_callV (d := 0) (idx := 70) (ct_C_suspects l) sh_C_suspects rfl (cf_mem 437 (by decide +kernel)) (cf_mem 434 (by decide +kernel)) (cf_mem 435 (by decide +kernel)) (cf_mem 436 (by decide +kernel)) (cf_mem 36 (by decide +kernel)) ⟨⟨by decide +kernel, by decide +kernel⟩, by decide +kernel⟩ ⟨by decide, by decide⟩ (by decide +kernel))))
        (cf_SL_node
         (cf_SL_leaf (cf_SL_of (cf_S_aload_n (j := 2) (by decide +kernel) rfl)))
         (cf_SL_leaf (cf_SL_of (cf_S_callV (d := 6) (idx := 73) (ct_P_suspects l) sh_P_suspects rfl (cf_mem 678 (by decide +kernel)) (cf_mem 675 (by decide +kernel)) (cf_mem 676 (by decide +kernel)) (cf_mem 677 (by decide +kernel)) (cf_mem 41 (by decide +kernel)) ⟨⟨by decide +kernel, by decide +kernel⟩, by decide +kernel⟩ ⟨by decide, by decide⟩ (by decide +kernel))))))))
     (cf_SL_node
      (cf_SL_node
       (cf_SL_node
        (cf_SL_leaf (cf_SL_of (cf_S_iceq (off := 67) (by decide +kernel) (by decide))))
        (cf_SL_leaf (cf_SL_of (cf_S_iconst (n := 0) (by decide +kernel) (by decide)))))
       (cf_SL_node
        (cf_SL_leaf (cf_SL_of (cf_S_iret (by decide +kernel))))
        (cf_SL_leaf (cf_SL_of (cf_S_aload_n (j := 1) (by decide +kernel) rfl)))))
      (cf_SL_node
       (cf_SL_node
        (cf_SL_leaf (cf_SL_of (cf_S_aload_n (j := 0) (by decide +kernel) rfl)))
        (cf_SL_leaf (cf_SL_of (cf_S_iload_n (j := 3) (by decide +kernel) rfl))))
       (cf_SL_node
        (cf_SL_leaf (cf_SL_of (cf_S_iconst (n := 1) (by decide +kernel) (by decide))))
        (cf_SL_node
         (cf_SL_leaf (cf_SL_of (cf_S_iadd (by decide +kernel))))
         (cf_SL_leaf (cf_SL_sld (by decide +kernel)))))))))
   (cf_SL_node
    (cf_SL_node
     (cf_SL_node
      (cf_SL_node
       (cf_SL_node
        (cf_SL_leaf (cf_SL_of (cf_S_callV (d := 2) (idx := 74) (ct_C_weight l) sh_C_weight rfl (cf_mem 441 (by decide +kernel)) (cf_mem 438 (by decide +kernel)) (cf_mem 439 (by decide +kernel)) (cf_mem 440 (by decide +kernel)) (cf_mem 36 (by decide +kernel)) ⟨⟨by decide +kernel, by decide +kernel⟩, by decide +kernel⟩ ⟨by decide, by decide⟩ (by decide +kernel))))
        (cf_SL_leaf (cf_SL_of (cf_S_aload_n (j := 2) (by decide +kernel) rfl))))
       (cf_SL_node
        (cf_SL_leaf (cf_SL_of (cf_S_aload_n (j := 0) (by decide +kernel) rfl)))
        (cf_SL_leaf (cf_SL_of (cf_S_iload_n (j := 3) (by decide +kernel) rfl)))))
      (cf_SL_node
       (cf_SL_node
        (cf_SL_leaf (cf_SL_of (cf_S_iconst (n := 1) (by decide +kernel) (by decide))))
        (cf_SL_leaf (cf_SL_of (cf_S_iadd (by decide +kernel)))))
       (cf_SL_node
        (cf_SL_leaf (cf_SL_sld (by decide +kernel)))
        (cf_SL_node
         (cf_SL_leaf (cf_SL_of (cf_S_callV (d := 6) (idx := 77) (ct_P_weight l) sh_P_weight rfl (cf_mem 682 (by decide +kernel)) (cf_mem 679 (by decide +kernel)) (cf_mem 680 (by decide +kernel)) (cf_mem 681 (by decide +kernel)) (cf_mem 41 (by decide +kernel)) ⟨⟨by decide +kernel, by decide +kernel⟩, by decide +kernel⟩ ⟨by decide, by decide⟩ (by decide +kernel))))
         (cf_SL_leaf (cf_SL_of (cf_S_iceq (off := 44) (by decide +kernel) (by decide))))))))
     (cf_SL_node
      (cf_SL_node
       (cf_SL_node
        (cf_SL_leaf (cf_SL_of (cf_S_iconst (n := 0) (by decide +kernel) (by decide))))
        (cf_SL_leaf (cf_SL_of (cf_S_iret (by decide +kernel)))))
       (cf_SL_node
        (cf_SL_leaf (cf_SL_of (cf_S_aload_n (j := 1) (by decide +kernel) rfl)))
        (cf_SL_leaf (cf_SL_of (cf_S_callV (d := 0) (idx := 78) (ct_C_culprit l) sh_C_culprit rfl (cf_mem 447 (by decide +kernel)) (cf_mem 444 (by decide +kernel)) (cf_mem 445 (by decide +kernel)) (cf_mem 446 (by decide +kernel)) (cf_mem 36 (by decide +kernel)) ⟨⟨by decide +kernel, by decide +kernel⟩, by decide +kernel⟩ ⟨by decide, by decide⟩ (by decide +kernel))))))
      (cf_SL_node
       (cf_SL_node
        (cf_SL_leaf (cf_SL_of (cf_S_aload_n (j := 2) (by decide +kernel) rfl)))
        (cf_SL_leaf (cf_SL_of (cf_S_callV (d := 6) (idx := 81) (ct_P_culprit l) sh_P_culprit rfl (cf_mem 686 (by decide +kernel)) (cf_mem 683 (by decide +kernel)) (cf_mem 684 (by decide +kernel)) (cf_mem 685 (by decide +kernel)) (cf_mem 41 (by decide +kernel)) ⟨⟨by decide +kernel, by decide +kernel⟩, by decide +kernel⟩ ⟨by decide, by decide⟩ (by decide +kernel)))))
       (cf_SL_node
        (cf_SL_leaf (cf_SL_of (cf_S_iceq (off := 31) (by decide +kernel) (by decide))))
        (cf_SL_node
         (cf_SL_leaf (cf_SL_of (cf_S_iconst (n := 0) (by decide +kernel) (by decide))))
         (cf_SL_leaf (cf_SL_of (cf_S_iret (by decide +kernel)))))))))
    (cf_SL_node
     (cf_SL_node
      (cf_SL_node
       (cf_SL_node
        (cf_SL_leaf (cf_SL_of (cf_S_aload_n (j := 1) (by decide +kernel) rfl)))
        (cf_SL_leaf (cf_SL_of (cf_S_callV (d := 0) (idx := 82) (ct_C_reduced l) sh_C_reduced rfl (cf_mem 451 (by decide +kernel)) (cf_mem 448 (by decide +kernel)) (cf_mem 449 (by decide +kernel)) (cf_mem 450 (by decide +kernel)) (cf_mem 36 (by decide +kernel)) ⟨⟨by decide +kernel, by decide +kernel⟩, by decide +kernel⟩ ⟨by decide, by decide⟩ (by decide +kernel)))))
       (cf_SL_node
        (cf_SL_leaf (cf_SL_of (cf_S_aload_n (j := 2) (by decide +kernel) rfl)))
        (cf_SL_leaf (cf_SL_of (cf_S_callV (d := 6) (idx := 85) (ct_P_reduced l) sh_P_reduced rfl (cf_mem 690 (by decide +kernel)) (cf_mem 687 (by decide +kernel)) (cf_mem 688 (by decide +kernel)) (cf_mem 689 (by decide +kernel)) (cf_mem 41 (by decide +kernel)) ⟨⟨by decide +kernel, by decide +kernel⟩, by decide +kernel⟩ ⟨by decide, by decide⟩ (by decide +kernel))))))
      (cf_SL_node
       (cf_SL_node
        (cf_SL_leaf (cf_SL_of (cf_S_iceq (off := 18) (by decide +kernel) (by decide))))
        (cf_SL_leaf (cf_SL_of (cf_S_iconst (n := 0) (by decide +kernel) (by decide)))))
       (cf_SL_node
        (cf_SL_leaf (cf_SL_of (cf_S_iret (by decide +kernel))))
        (cf_SL_node
         (cf_SL_leaf (cf_SL_of (cf_S_aload_n (j := 1) (by decide +kernel) rfl)))
         (cf_SL_leaf (cf_SL_of (cf_S_callV (d := 0) (idx := 86) (ct_C_started l) sh_C_started rfl (cf_mem 455 (by decide +kernel)) (cf_mem 452 (by decide +kernel)) (cf_mem 453 (by decide +kernel)) (cf_mem 454 (by decide +kernel)) (cf_mem 36 (by decide +kernel)) ⟨⟨by decide +kernel, by decide +kernel⟩, by decide +kernel⟩ ⟨by decide, by decide⟩ (by decide +kernel))))))))
     (cf_SL_node
      (cf_SL_node
       (cf_SL_node
        (cf_SL_leaf (cf_SL_of (cf_S_aload_n (j := 2) (by decide +kernel) rfl)))
        (cf_SL_leaf (cf_SL_of (cf_S_callV (d := 0) (idx := 89) (ct_P_started l) sh_P_started rfl (cf_mem 694 (by decide +kernel)) (cf_mem 691 (by decide +kernel)) (cf_mem 692 (by decide +kernel)) (cf_mem 693 (by decide +kernel)) (cf_mem 41 (by decide +kernel)) ⟨⟨by decide +kernel, by decide +kernel⟩, by decide +kernel⟩ ⟨by decide, by decide⟩ (by decide +kernel)))))
       (cf_SL_node
        (cf_SL_leaf (cf_SL_of (cf_S_iceq (off := 5) (by decide +kernel) (by decide))))
        (cf_SL_leaf (cf_SL_of (cf_S_iconst (n := 0) (by decide +kernel) (by decide))))))
      (cf_SL_node
       (cf_SL_node
        (cf_SL_leaf (cf_SL_of (cf_S_iret (by decide +kernel))))
        (cf_SL_leaf (cf_SL_of (cf_S_iinc (n := 4) (by decide +kernel) (by decide) (by decide)))))
       (cf_SL_node
        (cf_SL_leaf (cf_SL_of (cf_S_goto (off := -479) (by decide +kernel) (by decide))))
        (cf_SL_node
         (cf_SL_leaf (cf_SL_of (cf_S_iconst (n := 1) (by decide +kernel) (by decide))))
         (cf_SL_leaf (cf_SL_of (cf_S_iret (by decide +kernel))))))))))))
theorem r_law_16 {xs : Nat → Int32} {Ls : Nat} {l0 l1 l2 l3 : Option cf_AV} {st : List cf_AV} {w : cf_Wd} {Q : cf_Rs → Prop} : cf_wp (T_law xs Ls) (16, [l0, l1, l2, l3], st, w) Q ↔ cf_wp (T_law xs Ls) (17, [l0, l1, l2, l3], .inl 0 :: st, w) Q := cf_w1 rfl
theorem r_law_17 {xs : Nat → Int32} {Ls : Nat} {l0 l1 l2 l3 : Option cf_AV} {x : Int32} {st : List cf_AV} {w : cf_Wd} {Q : cf_Rs → Prop} : cf_wp (T_law xs Ls) (17, [l0, l1, l2, l3], .inl x :: st, w) Q ↔ cf_wp (T_law xs Ls) (18, [l0, l1, l2, some (.inl x)], st, w) Q := cf_w1 rfl
theorem r_law_18 {xs : Nat → Int32} {Ls : Nat} {l0 l1 l2 : Option cf_AV} {x : Int32} {st : List cf_AV} {w : cf_Wd} {Q : cf_Rs → Prop} : cf_wp (T_law xs Ls) (18, [l0, l1, l2, some (.inl x)], st, w) Q ↔ cf_wp (T_law xs Ls) (19, [l0, l1, l2, some (.inl x)], .inl x :: st, w) Q := cf_w1 rfl
theorem r_law_19 {xs : Nat → Int32} {Ls : Nat} {l1 l2 l3 : Option cf_AV} {k : Nat} {st : List cf_AV} {w : cf_Wd} {Q : cf_Rs → Prop} : cf_wp (T_law xs Ls) (19, [some (.inr k), l1, l2, l3], st, w) Q ↔ cf_wp (T_law xs Ls) (20, [some (.inr k), l1, l2, l3], .inr k :: st, w) Q := cf_w1 rfl
theorem r_law_20 {xs : Nat → Int32} {Ls : Nat} {l0 l1 l2 l3 : Option cf_AV} {st : List cf_AV} {w : cf_Wd} {Q : cf_Rs → Prop} : cf_wp (T_law xs Ls) (20, [l0, l1, l2, l3], .inr 26 :: st, w) Q ↔ cf_wp (T_law xs Ls) (21, [l0, l1, l2, l3], .inl (nI Ls) :: st, w) Q := cf_w1 rfl
theorem r_law_21 {xs : Nat → Int32} {Ls : Nat} {l0 l1 l2 l3 : Option cf_AV} {st : List cf_AV} {w : cf_Wd} {Q : cf_Rs → Prop} : cf_wp (T_law xs Ls) (21, [l0, l1, l2, l3], st, w) Q ↔ cf_wp (T_law xs Ls) (22, [l0, l1, l2, l3], .inl 4 :: st, w) Q := cf_w1 rfl
theorem r_law_22 {xs : Nat → Int32} {Ls : Nat} {l0 l1 l2 l3 : Option cf_AV} {x y : Int32} {st : List cf_AV} {w : cf_Wd} {Q : cf_Rs → Prop} : cf_wp (T_law xs Ls) (22, [l0, l1, l2, l3], .inl y :: .inl x :: st, w) Q ↔ cf_wp (T_law xs Ls) (23, [l0, l1, l2, l3], .inl (x - y) :: st, w) Q := cf_w1 rfl
theorem r_law_23 {xs : Nat → Int32} {Ls : Nat} {l0 l1 l2 l3 : Option cf_AV} {x y : Int32} {st : List cf_AV} {w : cf_Wd} {Q : cf_Rs → Prop} : cf_wp (T_law xs Ls) (23, [l0, l1, l2, l3], .inl y :: .inl x :: st, w) Q ↔ (if y < x then cf_wp (T_law xs Ls) (500, [l0, l1, l2, l3], st, w) Q else cf_wp (T_law xs Ls) (26, [l0, l1, l2, l3], st, w) Q) := cf_wi rfl
theorem r_law_26 {xs : Nat → Int32} {Ls : Nat} {l1 l2 l3 : Option cf_AV} {k : Nat} {st : List cf_AV} {w : cf_Wd} {Q : cf_Rs → Prop} : cf_wp (T_law xs Ls) (26, [some (.inr k), l1, l2, l3], st, w) Q ↔ cf_wp (T_law xs Ls) (27, [some (.inr k), l1, l2, l3], .inr k :: st, w) Q := cf_w1 rfl
theorem r_law_27 {xs : Nat → Int32} {Ls : Nat} {l0 l1 l2 : Option cf_AV} {x : Int32} {st : List cf_AV} {w : cf_Wd} {Q : cf_Rs → Prop} : cf_wp (T_law xs Ls) (27, [l0, l1, l2, some (.inl x)], st, w) Q ↔ cf_wp (T_law xs Ls) (28, [l0, l1, l2, some (.inl x)], .inl x :: st, w) Q := cf_w1 rfl
theorem r_law_28 {xs : Nat → Int32} {Ls : Nat} {l0 l1 l2 l3 : Option cf_AV} {i : Int32} {st : List cf_AV} {w : cf_Wd} {Q : cf_Rs → Prop} : cf_wp (T_law xs Ls) (28, [l0, l1, l2, l3], .inl i :: .inr 26 :: st, w) Q ↔ (cf_in i Ls = true ∧ cf_wp (T_law xs Ls) (29, [l0, l1, l2, l3], .inl (xs i.toNatClampNeg) :: st, w) Q) := cf_wg rfl
theorem r_law_29 {xs : Nat → Int32} {Ls : Nat} {l0 l1 l2 l3 : Option cf_AV} {st : List cf_AV} {w : cf_Wd} {Q : cf_Rs → Prop} : cf_wp (T_law xs Ls) (29, [l0, l1, l2, l3], st, w) Q ↔ cf_wp (T_law xs Ls) (31, [l0, l1, l2, l3], .inl 31 :: st, w) Q := cf_w1 rfl
theorem r_law_31 {xs : Nat → Int32} {Ls : Nat} {l0 l1 l2 l3 : Option cf_AV} {x y : Int32} {st : List cf_AV} {w : cf_Wd} {Q : cf_Rs → Prop} : cf_wp (T_law xs Ls) (31, [l0, l1, l2, l3], .inl y :: .inl x :: st, w) Q ↔ cf_wp (T_law xs Ls) (32, [l0, l1, l2, l3], .inl (x &&& y) :: st, w) Q := cf_w1 rfl
theorem r_law_32_m1 {xs : Nat → Int32} {Ls : Nat} {l0 l1 l2 l3 : Option cf_AV} {st : List cf_AV} {w : cf_Wd} {Q : cf_Rs → Prop} : cf_wp (T_law xs Ls) (32, [l0, l1, l2, l3], .inl (-1) :: st, w) Q ↔ cf_wp (T_law xs Ls) (494, [l0, l1, l2, l3], st, w) Q := cf_w1 (cf_tsw_e rfl (by decide +kernel))
theorem r_law_32_0 {xs : Nat → Int32} {Ls : Nat} {l0 l1 l2 l3 : Option cf_AV} {st : List cf_AV} {w : cf_Wd} {Q : cf_Rs → Prop} : cf_wp (T_law xs Ls) (32, [l0, l1, l2, l3], .inl 0 :: st, w) Q ↔ cf_wp (T_law xs Ls) (120, [l0, l1, l2, l3], st, w) Q := cf_w1 (cf_tsw_e rfl (by decide +kernel))
theorem r_law_32_1 {xs : Nat → Int32} {Ls : Nat} {l0 l1 l2 l3 : Option cf_AV} {st : List cf_AV} {w : cf_Wd} {Q : cf_Rs → Prop} : cf_wp (T_law xs Ls) (32, [l0, l1, l2, l3], .inl 1 :: st, w) Q ↔ cf_wp (T_law xs Ls) (153, [l0, l1, l2, l3], st, w) Q := cf_w1 (cf_tsw_e rfl (by decide +kernel))
theorem r_law_32_2 {xs : Nat → Int32} {Ls : Nat} {l0 l1 l2 l3 : Option cf_AV} {st : List cf_AV} {w : cf_Wd} {Q : cf_Rs → Prop} : cf_wp (T_law xs Ls) (32, [l0, l1, l2, l3], .inl 2 :: st, w) Q ↔ cf_wp (T_law xs Ls) (196, [l0, l1, l2, l3], st, w) Q := cf_w1 (cf_tsw_e rfl (by decide +kernel))
theorem r_law_32_3 {xs : Nat → Int32} {Ls : Nat} {l0 l1 l2 l3 : Option cf_AV} {st : List cf_AV} {w : cf_Wd} {Q : cf_Rs → Prop} : cf_wp (T_law xs Ls) (32, [l0, l1, l2, l3], .inl 3 :: st, w) Q ↔ cf_wp (T_law xs Ls) (229, [l0, l1, l2, l3], st, w) Q := cf_w1 (cf_tsw_e rfl (by decide +kernel))
theorem r_law_32_4 {xs : Nat → Int32} {Ls : Nat} {l0 l1 l2 l3 : Option cf_AV} {st : List cf_AV} {w : cf_Wd} {Q : cf_Rs → Prop} : cf_wp (T_law xs Ls) (32, [l0, l1, l2, l3], .inl 4 :: st, w) Q ↔ cf_wp (T_law xs Ls) (262, [l0, l1, l2, l3], st, w) Q := cf_w1 (cf_tsw_e rfl (by decide +kernel))
theorem r_law_32_5 {xs : Nat → Int32} {Ls : Nat} {l0 l1 l2 l3 : Option cf_AV} {st : List cf_AV} {w : cf_Wd} {Q : cf_Rs → Prop} : cf_wp (T_law xs Ls) (32, [l0, l1, l2, l3], .inl 5 :: st, w) Q ↔ cf_wp (T_law xs Ls) (305, [l0, l1, l2, l3], st, w) Q := cf_w1 (cf_tsw_e rfl (by decide +kernel))
theorem r_law_32_6 {xs : Nat → Int32} {Ls : Nat} {l0 l1 l2 l3 : Option cf_AV} {st : List cf_AV} {w : cf_Wd} {Q : cf_Rs → Prop} : cf_wp (T_law xs Ls) (32, [l0, l1, l2, l3], .inl 6 :: st, w) Q ↔ cf_wp (T_law xs Ls) (318, [l0, l1, l2, l3], st, w) Q := cf_w1 (cf_tsw_e rfl (by decide +kernel))
theorem r_law_32_7 {xs : Nat → Int32} {Ls : Nat} {l0 l1 l2 l3 : Option cf_AV} {st : List cf_AV} {w : cf_Wd} {Q : cf_Rs → Prop} : cf_wp (T_law xs Ls) (32, [l0, l1, l2, l3], .inl 7 :: st, w) Q ↔ cf_wp (T_law xs Ls) (331, [l0, l1, l2, l3], st, w) Q := cf_w1 (cf_tsw_e rfl (by decide +kernel))
theorem r_law_32_8 {xs : Nat → Int32} {Ls : Nat} {l0 l1 l2 l3 : Option cf_AV} {st : List cf_AV} {w : cf_Wd} {Q : cf_Rs → Prop} : cf_wp (T_law xs Ls) (32, [l0, l1, l2, l3], .inl 8 :: st, w) Q ↔ cf_wp (T_law xs Ls) (344, [l0, l1, l2, l3], st, w) Q := cf_w1 (cf_tsw_e rfl (by decide +kernel))
theorem r_law_32_9 {xs : Nat → Int32} {Ls : Nat} {l0 l1 l2 l3 : Option cf_AV} {st : List cf_AV} {w : cf_Wd} {Q : cf_Rs → Prop} : cf_wp (T_law xs Ls) (32, [l0, l1, l2, l3], .inl 9 :: st, w) Q ↔ cf_wp (T_law xs Ls) (357, [l0, l1, l2, l3], st, w) Q := cf_w1 (cf_tsw_e rfl (by decide +kernel))
theorem r_law_32_10 {xs : Nat → Int32} {Ls : Nat} {l0 l1 l2 l3 : Option cf_AV} {st : List cf_AV} {w : cf_Wd} {Q : cf_Rs → Prop} : cf_wp (T_law xs Ls) (32, [l0, l1, l2, l3], .inl 10 :: st, w) Q ↔ cf_wp (T_law xs Ls) (370, [l0, l1, l2, l3], st, w) Q := cf_w1 (cf_tsw_e rfl (by decide +kernel))
theorem r_law_32_11 {xs : Nat → Int32} {Ls : Nat} {l0 l1 l2 l3 : Option cf_AV} {st : List cf_AV} {w : cf_Wd} {Q : cf_Rs → Prop} : cf_wp (T_law xs Ls) (32, [l0, l1, l2, l3], .inl 11 :: st, w) Q ↔ cf_wp (T_law xs Ls) (383, [l0, l1, l2, l3], st, w) Q := cf_w1 (cf_tsw_e rfl (by decide +kernel))
theorem r_law_32_12 {xs : Nat → Int32} {Ls : Nat} {l0 l1 l2 l3 : Option cf_AV} {st : List cf_AV} {w : cf_Wd} {Q : cf_Rs → Prop} : cf_wp (T_law xs Ls) (32, [l0, l1, l2, l3], .inl 12 :: st, w) Q ↔ cf_wp (T_law xs Ls) (406, [l0, l1, l2, l3], st, w) Q := cf_w1 (cf_tsw_e rfl (by decide +kernel))
theorem r_law_32_13 {xs : Nat → Int32} {Ls : Nat} {l0 l1 l2 l3 : Option cf_AV} {st : List cf_AV} {w : cf_Wd} {Q : cf_Rs → Prop} : cf_wp (T_law xs Ls) (32, [l0, l1, l2, l3], .inl 13 :: st, w) Q ↔ cf_wp (T_law xs Ls) (419, [l0, l1, l2, l3], st, w) Q := cf_w1 (cf_tsw_e rfl (by decide +kernel))
theorem r_law_32_14 {xs : Nat → Int32} {Ls : Nat} {l0 l1 l2 l3 : Option cf_AV} {st : List cf_AV} {w : cf_Wd} {Q : cf_Rs → Prop} : cf_wp (T_law xs Ls) (32, [l0, l1, l2, l3], .inl 14 :: st, w) Q ↔ cf_wp (T_law xs Ls) (432, [l0, l1, l2, l3], st, w) Q := cf_w1 (cf_tsw_e rfl (by decide +kernel))
theorem r_law_32_15 {xs : Nat → Int32} {Ls : Nat} {l0 l1 l2 l3 : Option cf_AV} {st : List cf_AV} {w : cf_Wd} {Q : cf_Rs → Prop} : cf_wp (T_law xs Ls) (32, [l0, l1, l2, l3], .inl 15 :: st, w) Q ↔ cf_wp (T_law xs Ls) (455, [l0, l1, l2, l3], st, w) Q := cf_w1 (cf_tsw_e rfl (by decide +kernel))
theorem r_law_32_16 {xs : Nat → Int32} {Ls : Nat} {l0 l1 l2 l3 : Option cf_AV} {st : List cf_AV} {w : cf_Wd} {Q : cf_Rs → Prop} : cf_wp (T_law xs Ls) (32, [l0, l1, l2, l3], .inl 16 :: st, w) Q ↔ cf_wp (T_law xs Ls) (468, [l0, l1, l2, l3], st, w) Q := cf_w1 (cf_tsw_e rfl (by decide +kernel))
theorem r_law_32_17 {xs : Nat → Int32} {Ls : Nat} {l0 l1 l2 l3 : Option cf_AV} {st : List cf_AV} {w : cf_Wd} {Q : cf_Rs → Prop} : cf_wp (T_law xs Ls) (32, [l0, l1, l2, l3], .inl 17 :: st, w) Q ↔ cf_wp (T_law xs Ls) (481, [l0, l1, l2, l3], st, w) Q := cf_w1 (cf_tsw_e rfl (by decide +kernel))
theorem r_law_32_18 {xs : Nat → Int32} {Ls : Nat} {l0 l1 l2 l3 : Option cf_AV} {st : List cf_AV} {w : cf_Wd} {Q : cf_Rs → Prop} : cf_wp (T_law xs Ls) (32, [l0, l1, l2, l3], .inl 18 :: st, w) Q ↔ cf_wp (T_law xs Ls) (494, [l0, l1, l2, l3], st, w) Q := cf_w1 (cf_tsw_e rfl (by decide +kernel))
theorem r_law_32_19 {xs : Nat → Int32} {Ls : Nat} {l0 l1 l2 l3 : Option cf_AV} {st : List cf_AV} {w : cf_Wd} {Q : cf_Rs → Prop} : cf_wp (T_law xs Ls) (32, [l0, l1, l2, l3], .inl 19 :: st, w) Q ↔ cf_wp (T_law xs Ls) (494, [l0, l1, l2, l3], st, w) Q := cf_w1 (cf_tsw_e rfl (by decide +kernel))
theorem r_law_32_20 {xs : Nat → Int32} {Ls : Nat} {l0 l1 l2 l3 : Option cf_AV} {st : List cf_AV} {w : cf_Wd} {Q : cf_Rs → Prop} : cf_wp (T_law xs Ls) (32, [l0, l1, l2, l3], .inl 20 :: st, w) Q ↔ cf_wp (T_law xs Ls) (494, [l0, l1, l2, l3], st, w) Q := cf_w1 (cf_tsw_e rfl (by decide +kernel))
theorem r_law_32_21 {xs : Nat → Int32} {Ls : Nat} {l0 l1 l2 l3 : Option cf_AV} {st : List cf_AV} {w : cf_Wd} {Q : cf_Rs → Prop} : cf_wp (T_law xs Ls) (32, [l0, l1, l2, l3], .inl 21 :: st, w) Q ↔ cf_wp (T_law xs Ls) (494, [l0, l1, l2, l3], st, w) Q := cf_w1 (cf_tsw_e rfl (by decide +kernel))
theorem r_law_32_22 {xs : Nat → Int32} {Ls : Nat} {l0 l1 l2 l3 : Option cf_AV} {st : List cf_AV} {w : cf_Wd} {Q : cf_Rs → Prop} : cf_wp (T_law xs Ls) (32, [l0, l1, l2, l3], .inl 22 :: st, w) Q ↔ cf_wp (T_law xs Ls) (494, [l0, l1, l2, l3], st, w) Q := cf_w1 (cf_tsw_e rfl (by decide +kernel))
theorem r_law_32_23 {xs : Nat → Int32} {Ls : Nat} {l0 l1 l2 l3 : Option cf_AV} {st : List cf_AV} {w : cf_Wd} {Q : cf_Rs → Prop} : cf_wp (T_law xs Ls) (32, [l0, l1, l2, l3], .inl 23 :: st, w) Q ↔ cf_wp (T_law xs Ls) (494, [l0, l1, l2, l3], st, w) Q := cf_w1 (cf_tsw_e rfl (by decide +kernel))
theorem r_law_32_24 {xs : Nat → Int32} {Ls : Nat} {l0 l1 l2 l3 : Option cf_AV} {st : List cf_AV} {w : cf_Wd} {Q : cf_Rs → Prop} : cf_wp (T_law xs Ls) (32, [l0, l1, l2, l3], .inl 24 :: st, w) Q ↔ cf_wp (T_law xs Ls) (494, [l0, l1, l2, l3], st, w) Q := cf_w1 (cf_tsw_e rfl (by decide +kernel))
theorem r_law_32_25 {xs : Nat → Int32} {Ls : Nat} {l0 l1 l2 l3 : Option cf_AV} {st : List cf_AV} {w : cf_Wd} {Q : cf_Rs → Prop} : cf_wp (T_law xs Ls) (32, [l0, l1, l2, l3], .inl 25 :: st, w) Q ↔ cf_wp (T_law xs Ls) (494, [l0, l1, l2, l3], st, w) Q := cf_w1 (cf_tsw_e rfl (by decide +kernel))
theorem r_law_32_26 {xs : Nat → Int32} {Ls : Nat} {l0 l1 l2 l3 : Option cf_AV} {st : List cf_AV} {w : cf_Wd} {Q : cf_Rs → Prop} : cf_wp (T_law xs Ls) (32, [l0, l1, l2, l3], .inl 26 :: st, w) Q ↔ cf_wp (T_law xs Ls) (494, [l0, l1, l2, l3], st, w) Q := cf_w1 (cf_tsw_e rfl (by decide +kernel))
theorem r_law_32_27 {xs : Nat → Int32} {Ls : Nat} {l0 l1 l2 l3 : Option cf_AV} {st : List cf_AV} {w : cf_Wd} {Q : cf_Rs → Prop} : cf_wp (T_law xs Ls) (32, [l0, l1, l2, l3], .inl 27 :: st, w) Q ↔ cf_wp (T_law xs Ls) (494, [l0, l1, l2, l3], st, w) Q := cf_w1 (cf_tsw_e rfl (by decide +kernel))
theorem r_law_32_28 {xs : Nat → Int32} {Ls : Nat} {l0 l1 l2 l3 : Option cf_AV} {st : List cf_AV} {w : cf_Wd} {Q : cf_Rs → Prop} : cf_wp (T_law xs Ls) (32, [l0, l1, l2, l3], .inl 28 :: st, w) Q ↔ cf_wp (T_law xs Ls) (494, [l0, l1, l2, l3], st, w) Q := cf_w1 (cf_tsw_e rfl (by decide +kernel))
theorem r_law_32_29 {xs : Nat → Int32} {Ls : Nat} {l0 l1 l2 l3 : Option cf_AV} {st : List cf_AV} {w : cf_Wd} {Q : cf_Rs → Prop} : cf_wp (T_law xs Ls) (32, [l0, l1, l2, l3], .inl 29 :: st, w) Q ↔ cf_wp (T_law xs Ls) (494, [l0, l1, l2, l3], st, w) Q := cf_w1 (cf_tsw_e rfl (by decide +kernel))
theorem r_law_32_30 {xs : Nat → Int32} {Ls : Nat} {l0 l1 l2 l3 : Option cf_AV} {st : List cf_AV} {w : cf_Wd} {Q : cf_Rs → Prop} : cf_wp (T_law xs Ls) (32, [l0, l1, l2, l3], .inl 30 :: st, w) Q ↔ cf_wp (T_law xs Ls) (494, [l0, l1, l2, l3], st, w) Q := cf_w1 (cf_tsw_e rfl (by decide +kernel))
theorem r_law_32_31 {xs : Nat → Int32} {Ls : Nat} {l0 l1 l2 l3 : Option cf_AV} {st : List cf_AV} {w : cf_Wd} {Q : cf_Rs → Prop} : cf_wp (T_law xs Ls) (32, [l0, l1, l2, l3], .inl 31 :: st, w) Q ↔ cf_wp (T_law xs Ls) (494, [l0, l1, l2, l3], st, w) Q := cf_w1 (cf_tsw_e rfl (by decide +kernel))
theorem r_law_120 {xs : Nat → Int32} {Ls : Nat} {l0 l2 l3 : Option cf_AV} {k : Nat} {st : List cf_AV} {w : cf_Wd} {Q : cf_Rs → Prop} : cf_wp (T_law xs Ls) (120, [l0, some (.inr k), l2, l3], st, w) Q ↔ cf_wp (T_law xs Ls) (121, [l0, some (.inr k), l2, l3], .inr k :: st, w) Q := cf_w1 rfl
theorem r_law_121 {xs : Nat → Int32} {Ls : Nat} {l1 l2 l3 : Option cf_AV} {k : Nat} {st : List cf_AV} {w : cf_Wd} {Q : cf_Rs → Prop} : cf_wp (T_law xs Ls) (121, [some (.inr k), l1, l2, l3], st, w) Q ↔ cf_wp (T_law xs Ls) (122, [some (.inr k), l1, l2, l3], .inr k :: st, w) Q := cf_w1 rfl
theorem r_law_122 {xs : Nat → Int32} {Ls : Nat} {l0 l1 l2 : Option cf_AV} {x : Int32} {st : List cf_AV} {w : cf_Wd} {Q : cf_Rs → Prop} : cf_wp (T_law xs Ls) (122, [l0, l1, l2, some (.inl x)], st, w) Q ↔ cf_wp (T_law xs Ls) (123, [l0, l1, l2, some (.inl x)], .inl x :: st, w) Q := cf_w1 rfl
theorem r_law_123 {xs : Nat → Int32} {Ls : Nat} {l0 l1 l2 l3 : Option cf_AV} {st : List cf_AV} {w : cf_Wd} {Q : cf_Rs → Prop} : cf_wp (T_law xs Ls) (123, [l0, l1, l2, l3], st, w) Q ↔ cf_wp (T_law xs Ls) (124, [l0, l1, l2, l3], .inl 1 :: st, w) Q := cf_w1 rfl
theorem r_law_124 {xs : Nat → Int32} {Ls : Nat} {l0 l1 l2 l3 : Option cf_AV} {x y : Int32} {st : List cf_AV} {w : cf_Wd} {Q : cf_Rs → Prop} : cf_wp (T_law xs Ls) (124, [l0, l1, l2, l3], .inl y :: .inl x :: st, w) Q ↔ cf_wp (T_law xs Ls) (125, [l0, l1, l2, l3], .inl (x + y) :: st, w) Q := cf_w1 rfl
theorem r_law_125 {xs : Nat → Int32} {Ls : Nat} {l0 l1 l2 l3 : Option cf_AV} {i : Int32} {st : List cf_AV} {w : cf_Wd} {Q : cf_Rs → Prop} : cf_wp (T_law xs Ls) (125, [l0, l1, l2, l3], .inl i :: .inr 26 :: st, w) Q ↔ (cf_in i Ls = true ∧ cf_wp (T_law xs Ls) (126, [l0, l1, l2, l3], .inl (xs i.toNatClampNeg) :: st, w) Q) := cf_wg rfl
theorem r_law_126 {xs : Nat → Int32} {Ls : Nat} {l1 l2 l3 : Option cf_AV} {k : Nat} {st : List cf_AV} {w : cf_Wd} {Q : cf_Rs → Prop} : cf_wp (T_law xs Ls) (126, [some (.inr k), l1, l2, l3], st, w) Q ↔ cf_wp (T_law xs Ls) (127, [some (.inr k), l1, l2, l3], .inr k :: st, w) Q := cf_w1 rfl
theorem r_law_127 {xs : Nat → Int32} {Ls : Nat} {l0 l1 l2 : Option cf_AV} {x : Int32} {st : List cf_AV} {w : cf_Wd} {Q : cf_Rs → Prop} : cf_wp (T_law xs Ls) (127, [l0, l1, l2, some (.inl x)], st, w) Q ↔ cf_wp (T_law xs Ls) (128, [l0, l1, l2, some (.inl x)], .inl x :: st, w) Q := cf_w1 rfl
theorem r_law_128 {xs : Nat → Int32} {Ls : Nat} {l0 l1 l2 l3 : Option cf_AV} {st : List cf_AV} {w : cf_Wd} {Q : cf_Rs → Prop} : cf_wp (T_law xs Ls) (128, [l0, l1, l2, l3], st, w) Q ↔ cf_wp (T_law xs Ls) (129, [l0, l1, l2, l3], .inl 2 :: st, w) Q := cf_w1 rfl
theorem r_law_129 {xs : Nat → Int32} {Ls : Nat} {l0 l1 l2 l3 : Option cf_AV} {x y : Int32} {st : List cf_AV} {w : cf_Wd} {Q : cf_Rs → Prop} : cf_wp (T_law xs Ls) (129, [l0, l1, l2, l3], .inl y :: .inl x :: st, w) Q ↔ cf_wp (T_law xs Ls) (130, [l0, l1, l2, l3], .inl (x + y) :: st, w) Q := cf_w1 rfl
theorem r_law_130 {xs : Nat → Int32} {Ls : Nat} {l0 l1 l2 l3 : Option cf_AV} {i : Int32} {st : List cf_AV} {w : cf_Wd} {Q : cf_Rs → Prop} : cf_wp (T_law xs Ls) (130, [l0, l1, l2, l3], .inl i :: .inr 26 :: st, w) Q ↔ (cf_in i Ls = true ∧ cf_wp (T_law xs Ls) (131, [l0, l1, l2, l3], .inl (xs i.toNatClampNeg) :: st, w) Q) := cf_wg rfl
theorem r_law_131 {xs : Nat → Int32} {Ls : Nat} {l0 l1 l2 l3 : Option cf_AV} {a2 a1 : Int32} {w : cf_Wd} {Q : cf_Rs → Prop} : cf_wp (T_law xs Ls) (131, [l0, l1, l2, l3], [.inl a2, .inl a1, .inr 0], w) Q ↔ ∃ x w1, F_C_commit [.inr 0, .inl a1, .inl a2] w = some (some (.inl x), w1) ∧ cf_wp (T_law xs Ls) (134, [l0, l1, l2, l3], [.inl x], w1) Q := cf_wci (n := 3) (F := F_C_commit) (nx := 134) rfl rfl cf_F_i
theorem c_law_131 {xs : Nat → Int32} {Ls : Nat} {l0 l1 l2 l3 : Option cf_AV} {a2 a1 : Int32} {x1 : Int32} {w1 : cf_Wd} {w : cf_Wd} {Q : cf_Rs → Prop} (hs : F_C_commit [.inr 0, .inl a1, .inl a2] w = some (some (.inl x1), w1)) : cf_wp (T_law xs Ls) (131, [l0, l1, l2, l3], [.inl a2, .inl a1, .inr 0], w) Q ↔ cf_wp (T_law xs Ls) (134, [l0, l1, l2, l3], [.inl x1], w1) Q := r_law_131.trans (cf_xi hs)
theorem r_law_134 {xs : Nat → Int32} {Ls : Nat} {l0 l1 l3 : Option cf_AV} {k : Nat} {st : List cf_AV} {w : cf_Wd} {Q : cf_Rs → Prop} : cf_wp (T_law xs Ls) (134, [l0, l1, some (.inr k), l3], st, w) Q ↔ cf_wp (T_law xs Ls) (135, [l0, l1, some (.inr k), l3], .inr k :: st, w) Q := cf_w1 rfl
theorem r_law_135 {xs : Nat → Int32} {Ls : Nat} {l1 l2 l3 : Option cf_AV} {k : Nat} {st : List cf_AV} {w : cf_Wd} {Q : cf_Rs → Prop} : cf_wp (T_law xs Ls) (135, [some (.inr k), l1, l2, l3], st, w) Q ↔ cf_wp (T_law xs Ls) (136, [some (.inr k), l1, l2, l3], .inr k :: st, w) Q := cf_w1 rfl
theorem r_law_136 {xs : Nat → Int32} {Ls : Nat} {l0 l1 l2 : Option cf_AV} {x : Int32} {st : List cf_AV} {w : cf_Wd} {Q : cf_Rs → Prop} : cf_wp (T_law xs Ls) (136, [l0, l1, l2, some (.inl x)], st, w) Q ↔ cf_wp (T_law xs Ls) (137, [l0, l1, l2, some (.inl x)], .inl x :: st, w) Q := cf_w1 rfl
theorem r_law_137 {xs : Nat → Int32} {Ls : Nat} {l0 l1 l2 l3 : Option cf_AV} {st : List cf_AV} {w : cf_Wd} {Q : cf_Rs → Prop} : cf_wp (T_law xs Ls) (137, [l0, l1, l2, l3], st, w) Q ↔ cf_wp (T_law xs Ls) (138, [l0, l1, l2, l3], .inl 1 :: st, w) Q := cf_w1 rfl
theorem r_law_138 {xs : Nat → Int32} {Ls : Nat} {l0 l1 l2 l3 : Option cf_AV} {x y : Int32} {st : List cf_AV} {w : cf_Wd} {Q : cf_Rs → Prop} : cf_wp (T_law xs Ls) (138, [l0, l1, l2, l3], .inl y :: .inl x :: st, w) Q ↔ cf_wp (T_law xs Ls) (139, [l0, l1, l2, l3], .inl (x + y) :: st, w) Q := cf_w1 rfl
theorem r_law_139 {xs : Nat → Int32} {Ls : Nat} {l0 l1 l2 l3 : Option cf_AV} {i : Int32} {st : List cf_AV} {w : cf_Wd} {Q : cf_Rs → Prop} : cf_wp (T_law xs Ls) (139, [l0, l1, l2, l3], .inl i :: .inr 26 :: st, w) Q ↔ (cf_in i Ls = true ∧ cf_wp (T_law xs Ls) (140, [l0, l1, l2, l3], .inl (xs i.toNatClampNeg) :: st, w) Q) := cf_wg rfl
theorem r_law_140 {xs : Nat → Int32} {Ls : Nat} {l1 l2 l3 : Option cf_AV} {k : Nat} {st : List cf_AV} {w : cf_Wd} {Q : cf_Rs → Prop} : cf_wp (T_law xs Ls) (140, [some (.inr k), l1, l2, l3], st, w) Q ↔ cf_wp (T_law xs Ls) (141, [some (.inr k), l1, l2, l3], .inr k :: st, w) Q := cf_w1 rfl
theorem r_law_141 {xs : Nat → Int32} {Ls : Nat} {l0 l1 l2 : Option cf_AV} {x : Int32} {st : List cf_AV} {w : cf_Wd} {Q : cf_Rs → Prop} : cf_wp (T_law xs Ls) (141, [l0, l1, l2, some (.inl x)], st, w) Q ↔ cf_wp (T_law xs Ls) (142, [l0, l1, l2, some (.inl x)], .inl x :: st, w) Q := cf_w1 rfl
theorem r_law_142 {xs : Nat → Int32} {Ls : Nat} {l0 l1 l2 l3 : Option cf_AV} {st : List cf_AV} {w : cf_Wd} {Q : cf_Rs → Prop} : cf_wp (T_law xs Ls) (142, [l0, l1, l2, l3], st, w) Q ↔ cf_wp (T_law xs Ls) (143, [l0, l1, l2, l3], .inl 2 :: st, w) Q := cf_w1 rfl
theorem r_law_143 {xs : Nat → Int32} {Ls : Nat} {l0 l1 l2 l3 : Option cf_AV} {x y : Int32} {st : List cf_AV} {w : cf_Wd} {Q : cf_Rs → Prop} : cf_wp (T_law xs Ls) (143, [l0, l1, l2, l3], .inl y :: .inl x :: st, w) Q ↔ cf_wp (T_law xs Ls) (144, [l0, l1, l2, l3], .inl (x + y) :: st, w) Q := cf_w1 rfl
theorem r_law_144 {xs : Nat → Int32} {Ls : Nat} {l0 l1 l2 l3 : Option cf_AV} {i : Int32} {st : List cf_AV} {w : cf_Wd} {Q : cf_Rs → Prop} : cf_wp (T_law xs Ls) (144, [l0, l1, l2, l3], .inl i :: .inr 26 :: st, w) Q ↔ (cf_in i Ls = true ∧ cf_wp (T_law xs Ls) (145, [l0, l1, l2, l3], .inl (xs i.toNatClampNeg) :: st, w) Q) := cf_wg rfl
theorem r_law_145 {xs : Nat → Int32} {Ls : Nat} {l0 l1 l2 l3 : Option cf_AV} {a2 a1 : Int32} {t0 : cf_AV} {w : cf_Wd} {Q : cf_Rs → Prop} : cf_wp (T_law xs Ls) (145, [l0, l1, l2, l3], [.inl a2, .inl a1, .inr 15, t0], w) Q ↔ ∃ x w1, F_P_commit [.inr 15, .inl a1, .inl a2] w = some (some (.inl x), w1) ∧ cf_wp (T_law xs Ls) (148, [l0, l1, l2, l3], [.inl x, t0], w1) Q := cf_wci (n := 3) (F := F_P_commit) (nx := 148) rfl rfl cf_F_i
theorem c_law_145 {xs : Nat → Int32} {Ls : Nat} {l0 l1 l2 l3 : Option cf_AV} {a2 a1 : Int32} {t0 : cf_AV} {x1 : Int32} {w1 : cf_Wd} {w : cf_Wd} {Q : cf_Rs → Prop} (hs : F_P_commit [.inr 15, .inl a1, .inl a2] w = some (some (.inl x1), w1)) : cf_wp (T_law xs Ls) (145, [l0, l1, l2, l3], [.inl a2, .inl a1, .inr 15, t0], w) Q ↔ cf_wp (T_law xs Ls) (148, [l0, l1, l2, l3], [.inl x1, t0], w1) Q := r_law_145.trans (cf_xi hs)
theorem r_law_148 {xs : Nat → Int32} {Ls : Nat} {l0 l1 l2 l3 : Option cf_AV} {x y : Int32} {st : List cf_AV} {w : cf_Wd} {Q : cf_Rs → Prop} : cf_wp (T_law xs Ls) (148, [l0, l1, l2, l3], .inl y :: .inl x :: st, w) Q ↔ (if x = y then cf_wp (T_law xs Ls) (494, [l0, l1, l2, l3], st, w) Q else cf_wp (T_law xs Ls) (151, [l0, l1, l2, l3], st, w) Q) := cf_wi rfl
theorem r_law_151 {xs : Nat → Int32} {Ls : Nat} {l0 l1 l2 l3 : Option cf_AV} {st : List cf_AV} {w : cf_Wd} {Q : cf_Rs → Prop} : cf_wp (T_law xs Ls) (151, [l0, l1, l2, l3], st, w) Q ↔ cf_wp (T_law xs Ls) (152, [l0, l1, l2, l3], .inl 0 :: st, w) Q := cf_w1 rfl
theorem r_law_152 {xs : Nat → Int32} {Ls : Nat} {l0 l1 l2 l3 : Option cf_AV} {x : Int32} {w : cf_Wd} {P : Int32 → cf_Wd → Prop} : cf_wp (T_law xs Ls) (152, [l0, l1, l2, l3], [.inl x], w) (cf_qb P) ↔ ((x = 0 ∨ x = 1) ∧ P x w) := Iff.trans (cf_wr (q := (some (.inl x), w)) rfl) Iff.rfl
theorem r_law_153 {xs : Nat → Int32} {Ls : Nat} {l0 l2 l3 : Option cf_AV} {k : Nat} {st : List cf_AV} {w : cf_Wd} {Q : cf_Rs → Prop} : cf_wp (T_law xs Ls) (153, [l0, some (.inr k), l2, l3], st, w) Q ↔ cf_wp (T_law xs Ls) (154, [l0, some (.inr k), l2, l3], .inr k :: st, w) Q := cf_w1 rfl
theorem r_law_154 {xs : Nat → Int32} {Ls : Nat} {l1 l2 l3 : Option cf_AV} {k : Nat} {st : List cf_AV} {w : cf_Wd} {Q : cf_Rs → Prop} : cf_wp (T_law xs Ls) (154, [some (.inr k), l1, l2, l3], st, w) Q ↔ cf_wp (T_law xs Ls) (155, [some (.inr k), l1, l2, l3], .inr k :: st, w) Q := cf_w1 rfl
theorem r_law_155 {xs : Nat → Int32} {Ls : Nat} {l0 l1 l2 : Option cf_AV} {x : Int32} {st : List cf_AV} {w : cf_Wd} {Q : cf_Rs → Prop} : cf_wp (T_law xs Ls) (155, [l0, l1, l2, some (.inl x)], st, w) Q ↔ cf_wp (T_law xs Ls) (156, [l0, l1, l2, some (.inl x)], .inl x :: st, w) Q := cf_w1 rfl
theorem r_law_156 {xs : Nat → Int32} {Ls : Nat} {l0 l1 l2 l3 : Option cf_AV} {st : List cf_AV} {w : cf_Wd} {Q : cf_Rs → Prop} : cf_wp (T_law xs Ls) (156, [l0, l1, l2, l3], st, w) Q ↔ cf_wp (T_law xs Ls) (157, [l0, l1, l2, l3], .inl 1 :: st, w) Q := cf_w1 rfl
theorem r_law_157 {xs : Nat → Int32} {Ls : Nat} {l0 l1 l2 l3 : Option cf_AV} {x y : Int32} {st : List cf_AV} {w : cf_Wd} {Q : cf_Rs → Prop} : cf_wp (T_law xs Ls) (157, [l0, l1, l2, l3], .inl y :: .inl x :: st, w) Q ↔ cf_wp (T_law xs Ls) (158, [l0, l1, l2, l3], .inl (x + y) :: st, w) Q := cf_w1 rfl
theorem r_law_158 {xs : Nat → Int32} {Ls : Nat} {l0 l1 l2 l3 : Option cf_AV} {i : Int32} {st : List cf_AV} {w : cf_Wd} {Q : cf_Rs → Prop} : cf_wp (T_law xs Ls) (158, [l0, l1, l2, l3], .inl i :: .inr 26 :: st, w) Q ↔ (cf_in i Ls = true ∧ cf_wp (T_law xs Ls) (159, [l0, l1, l2, l3], .inl (xs i.toNatClampNeg) :: st, w) Q) := cf_wg rfl
theorem r_law_159 {xs : Nat → Int32} {Ls : Nat} {l1 l2 l3 : Option cf_AV} {k : Nat} {st : List cf_AV} {w : cf_Wd} {Q : cf_Rs → Prop} : cf_wp (T_law xs Ls) (159, [some (.inr k), l1, l2, l3], st, w) Q ↔ cf_wp (T_law xs Ls) (160, [some (.inr k), l1, l2, l3], .inr k :: st, w) Q := cf_w1 rfl
theorem r_law_160 {xs : Nat → Int32} {Ls : Nat} {l0 l1 l2 : Option cf_AV} {x : Int32} {st : List cf_AV} {w : cf_Wd} {Q : cf_Rs → Prop} : cf_wp (T_law xs Ls) (160, [l0, l1, l2, some (.inl x)], st, w) Q ↔ cf_wp (T_law xs Ls) (161, [l0, l1, l2, some (.inl x)], .inl x :: st, w) Q := cf_w1 rfl
theorem r_law_161 {xs : Nat → Int32} {Ls : Nat} {l0 l1 l2 l3 : Option cf_AV} {st : List cf_AV} {w : cf_Wd} {Q : cf_Rs → Prop} : cf_wp (T_law xs Ls) (161, [l0, l1, l2, l3], st, w) Q ↔ cf_wp (T_law xs Ls) (162, [l0, l1, l2, l3], .inl 2 :: st, w) Q := cf_w1 rfl
theorem r_law_162 {xs : Nat → Int32} {Ls : Nat} {l0 l1 l2 l3 : Option cf_AV} {x y : Int32} {st : List cf_AV} {w : cf_Wd} {Q : cf_Rs → Prop} : cf_wp (T_law xs Ls) (162, [l0, l1, l2, l3], .inl y :: .inl x :: st, w) Q ↔ cf_wp (T_law xs Ls) (163, [l0, l1, l2, l3], .inl (x + y) :: st, w) Q := cf_w1 rfl
theorem r_law_163 {xs : Nat → Int32} {Ls : Nat} {l0 l1 l2 l3 : Option cf_AV} {i : Int32} {st : List cf_AV} {w : cf_Wd} {Q : cf_Rs → Prop} : cf_wp (T_law xs Ls) (163, [l0, l1, l2, l3], .inl i :: .inr 26 :: st, w) Q ↔ (cf_in i Ls = true ∧ cf_wp (T_law xs Ls) (164, [l0, l1, l2, l3], .inl (xs i.toNatClampNeg) :: st, w) Q) := cf_wg rfl
theorem r_law_164 {xs : Nat → Int32} {Ls : Nat} {l1 l2 l3 : Option cf_AV} {k : Nat} {st : List cf_AV} {w : cf_Wd} {Q : cf_Rs → Prop} : cf_wp (T_law xs Ls) (164, [some (.inr k), l1, l2, l3], st, w) Q ↔ cf_wp (T_law xs Ls) (165, [some (.inr k), l1, l2, l3], .inr k :: st, w) Q := cf_w1 rfl
theorem r_law_165 {xs : Nat → Int32} {Ls : Nat} {l0 l1 l2 : Option cf_AV} {x : Int32} {st : List cf_AV} {w : cf_Wd} {Q : cf_Rs → Prop} : cf_wp (T_law xs Ls) (165, [l0, l1, l2, some (.inl x)], st, w) Q ↔ cf_wp (T_law xs Ls) (166, [l0, l1, l2, some (.inl x)], .inl x :: st, w) Q := cf_w1 rfl
theorem r_law_166 {xs : Nat → Int32} {Ls : Nat} {l0 l1 l2 l3 : Option cf_AV} {st : List cf_AV} {w : cf_Wd} {Q : cf_Rs → Prop} : cf_wp (T_law xs Ls) (166, [l0, l1, l2, l3], st, w) Q ↔ cf_wp (T_law xs Ls) (167, [l0, l1, l2, l3], .inl 3 :: st, w) Q := cf_w1 rfl
theorem r_law_167 {xs : Nat → Int32} {Ls : Nat} {l0 l1 l2 l3 : Option cf_AV} {x y : Int32} {st : List cf_AV} {w : cf_Wd} {Q : cf_Rs → Prop} : cf_wp (T_law xs Ls) (167, [l0, l1, l2, l3], .inl y :: .inl x :: st, w) Q ↔ cf_wp (T_law xs Ls) (168, [l0, l1, l2, l3], .inl (x + y) :: st, w) Q := cf_w1 rfl
theorem r_law_168 {xs : Nat → Int32} {Ls : Nat} {l0 l1 l2 l3 : Option cf_AV} {i : Int32} {st : List cf_AV} {w : cf_Wd} {Q : cf_Rs → Prop} : cf_wp (T_law xs Ls) (168, [l0, l1, l2, l3], .inl i :: .inr 26 :: st, w) Q ↔ (cf_in i Ls = true ∧ cf_wp (T_law xs Ls) (169, [l0, l1, l2, l3], .inl (xs i.toNatClampNeg) :: st, w) Q) := cf_wg rfl
theorem r_law_169 {xs : Nat → Int32} {Ls : Nat} {l0 l1 l2 l3 : Option cf_AV} {a3 a2 a1 : Int32} {w : cf_Wd} {Q : cf_Rs → Prop} : cf_wp (T_law xs Ls) (169, [l0, l1, l2, l3], [.inl a3, .inl a2, .inl a1, .inr 0], w) Q ↔ ∃ x w1, F_C_write [.inr 0, .inl a1, .inl a2, .inl a3] w = some (some (.inl x), w1) ∧ cf_wp (T_law xs Ls) (172, [l0, l1, l2, l3], [.inl x], w1) Q := cf_wci (n := 4) (F := F_C_write) (nx := 172) rfl rfl cf_F_b
theorem c_law_169 {xs : Nat → Int32} {Ls : Nat} {l0 l1 l2 l3 : Option cf_AV} {a3 a2 a1 : Int32} {x1 : Int32} {w1 : cf_Wd} {w : cf_Wd} {Q : cf_Rs → Prop} (hs : F_C_write [.inr 0, .inl a1, .inl a2, .inl a3] w = some (some (.inl x1), w1)) : cf_wp (T_law xs Ls) (169, [l0, l1, l2, l3], [.inl a3, .inl a2, .inl a1, .inr 0], w) Q ↔ cf_wp (T_law xs Ls) (172, [l0, l1, l2, l3], [.inl x1], w1) Q := r_law_169.trans (cf_xi hs)
theorem r_law_172 {xs : Nat → Int32} {Ls : Nat} {l0 l1 l3 : Option cf_AV} {k : Nat} {st : List cf_AV} {w : cf_Wd} {Q : cf_Rs → Prop} : cf_wp (T_law xs Ls) (172, [l0, l1, some (.inr k), l3], st, w) Q ↔ cf_wp (T_law xs Ls) (173, [l0, l1, some (.inr k), l3], .inr k :: st, w) Q := cf_w1 rfl
theorem r_law_173 {xs : Nat → Int32} {Ls : Nat} {l1 l2 l3 : Option cf_AV} {k : Nat} {st : List cf_AV} {w : cf_Wd} {Q : cf_Rs → Prop} : cf_wp (T_law xs Ls) (173, [some (.inr k), l1, l2, l3], st, w) Q ↔ cf_wp (T_law xs Ls) (174, [some (.inr k), l1, l2, l3], .inr k :: st, w) Q := cf_w1 rfl
theorem r_law_174 {xs : Nat → Int32} {Ls : Nat} {l0 l1 l2 : Option cf_AV} {x : Int32} {st : List cf_AV} {w : cf_Wd} {Q : cf_Rs → Prop} : cf_wp (T_law xs Ls) (174, [l0, l1, l2, some (.inl x)], st, w) Q ↔ cf_wp (T_law xs Ls) (175, [l0, l1, l2, some (.inl x)], .inl x :: st, w) Q := cf_w1 rfl
theorem r_law_175 {xs : Nat → Int32} {Ls : Nat} {l0 l1 l2 l3 : Option cf_AV} {st : List cf_AV} {w : cf_Wd} {Q : cf_Rs → Prop} : cf_wp (T_law xs Ls) (175, [l0, l1, l2, l3], st, w) Q ↔ cf_wp (T_law xs Ls) (176, [l0, l1, l2, l3], .inl 1 :: st, w) Q := cf_w1 rfl
theorem r_law_176 {xs : Nat → Int32} {Ls : Nat} {l0 l1 l2 l3 : Option cf_AV} {x y : Int32} {st : List cf_AV} {w : cf_Wd} {Q : cf_Rs → Prop} : cf_wp (T_law xs Ls) (176, [l0, l1, l2, l3], .inl y :: .inl x :: st, w) Q ↔ cf_wp (T_law xs Ls) (177, [l0, l1, l2, l3], .inl (x + y) :: st, w) Q := cf_w1 rfl
theorem r_law_177 {xs : Nat → Int32} {Ls : Nat} {l0 l1 l2 l3 : Option cf_AV} {i : Int32} {st : List cf_AV} {w : cf_Wd} {Q : cf_Rs → Prop} : cf_wp (T_law xs Ls) (177, [l0, l1, l2, l3], .inl i :: .inr 26 :: st, w) Q ↔ (cf_in i Ls = true ∧ cf_wp (T_law xs Ls) (178, [l0, l1, l2, l3], .inl (xs i.toNatClampNeg) :: st, w) Q) := cf_wg rfl
theorem r_law_178 {xs : Nat → Int32} {Ls : Nat} {l1 l2 l3 : Option cf_AV} {k : Nat} {st : List cf_AV} {w : cf_Wd} {Q : cf_Rs → Prop} : cf_wp (T_law xs Ls) (178, [some (.inr k), l1, l2, l3], st, w) Q ↔ cf_wp (T_law xs Ls) (179, [some (.inr k), l1, l2, l3], .inr k :: st, w) Q := cf_w1 rfl
theorem r_law_179 {xs : Nat → Int32} {Ls : Nat} {l0 l1 l2 : Option cf_AV} {x : Int32} {st : List cf_AV} {w : cf_Wd} {Q : cf_Rs → Prop} : cf_wp (T_law xs Ls) (179, [l0, l1, l2, some (.inl x)], st, w) Q ↔ cf_wp (T_law xs Ls) (180, [l0, l1, l2, some (.inl x)], .inl x :: st, w) Q := cf_w1 rfl
theorem r_law_180 {xs : Nat → Int32} {Ls : Nat} {l0 l1 l2 l3 : Option cf_AV} {st : List cf_AV} {w : cf_Wd} {Q : cf_Rs → Prop} : cf_wp (T_law xs Ls) (180, [l0, l1, l2, l3], st, w) Q ↔ cf_wp (T_law xs Ls) (181, [l0, l1, l2, l3], .inl 2 :: st, w) Q := cf_w1 rfl
theorem r_law_181 {xs : Nat → Int32} {Ls : Nat} {l0 l1 l2 l3 : Option cf_AV} {x y : Int32} {st : List cf_AV} {w : cf_Wd} {Q : cf_Rs → Prop} : cf_wp (T_law xs Ls) (181, [l0, l1, l2, l3], .inl y :: .inl x :: st, w) Q ↔ cf_wp (T_law xs Ls) (182, [l0, l1, l2, l3], .inl (x + y) :: st, w) Q := cf_w1 rfl
theorem r_law_182 {xs : Nat → Int32} {Ls : Nat} {l0 l1 l2 l3 : Option cf_AV} {i : Int32} {st : List cf_AV} {w : cf_Wd} {Q : cf_Rs → Prop} : cf_wp (T_law xs Ls) (182, [l0, l1, l2, l3], .inl i :: .inr 26 :: st, w) Q ↔ (cf_in i Ls = true ∧ cf_wp (T_law xs Ls) (183, [l0, l1, l2, l3], .inl (xs i.toNatClampNeg) :: st, w) Q) := cf_wg rfl
theorem r_law_183 {xs : Nat → Int32} {Ls : Nat} {l1 l2 l3 : Option cf_AV} {k : Nat} {st : List cf_AV} {w : cf_Wd} {Q : cf_Rs → Prop} : cf_wp (T_law xs Ls) (183, [some (.inr k), l1, l2, l3], st, w) Q ↔ cf_wp (T_law xs Ls) (184, [some (.inr k), l1, l2, l3], .inr k :: st, w) Q := cf_w1 rfl
theorem r_law_184 {xs : Nat → Int32} {Ls : Nat} {l0 l1 l2 : Option cf_AV} {x : Int32} {st : List cf_AV} {w : cf_Wd} {Q : cf_Rs → Prop} : cf_wp (T_law xs Ls) (184, [l0, l1, l2, some (.inl x)], st, w) Q ↔ cf_wp (T_law xs Ls) (185, [l0, l1, l2, some (.inl x)], .inl x :: st, w) Q := cf_w1 rfl
theorem r_law_185 {xs : Nat → Int32} {Ls : Nat} {l0 l1 l2 l3 : Option cf_AV} {st : List cf_AV} {w : cf_Wd} {Q : cf_Rs → Prop} : cf_wp (T_law xs Ls) (185, [l0, l1, l2, l3], st, w) Q ↔ cf_wp (T_law xs Ls) (186, [l0, l1, l2, l3], .inl 3 :: st, w) Q := cf_w1 rfl
theorem r_law_186 {xs : Nat → Int32} {Ls : Nat} {l0 l1 l2 l3 : Option cf_AV} {x y : Int32} {st : List cf_AV} {w : cf_Wd} {Q : cf_Rs → Prop} : cf_wp (T_law xs Ls) (186, [l0, l1, l2, l3], .inl y :: .inl x :: st, w) Q ↔ cf_wp (T_law xs Ls) (187, [l0, l1, l2, l3], .inl (x + y) :: st, w) Q := cf_w1 rfl
theorem r_law_187 {xs : Nat → Int32} {Ls : Nat} {l0 l1 l2 l3 : Option cf_AV} {i : Int32} {st : List cf_AV} {w : cf_Wd} {Q : cf_Rs → Prop} : cf_wp (T_law xs Ls) (187, [l0, l1, l2, l3], .inl i :: .inr 26 :: st, w) Q ↔ (cf_in i Ls = true ∧ cf_wp (T_law xs Ls) (188, [l0, l1, l2, l3], .inl (xs i.toNatClampNeg) :: st, w) Q) := cf_wg rfl
theorem r_law_188 {xs : Nat → Int32} {Ls : Nat} {l0 l1 l2 l3 : Option cf_AV} {a3 a2 a1 : Int32} {t0 : cf_AV} {w : cf_Wd} {Q : cf_Rs → Prop} : cf_wp (T_law xs Ls) (188, [l0, l1, l2, l3], [.inl a3, .inl a2, .inl a1, .inr 15, t0], w) Q ↔ ∃ x w1, F_P_write [.inr 15, .inl a1, .inl a2, .inl a3] w = some (some (.inl x), w1) ∧ cf_wp (T_law xs Ls) (191, [l0, l1, l2, l3], [.inl x, t0], w1) Q := cf_wci (n := 4) (F := F_P_write) (nx := 191) rfl rfl cf_F_b
theorem c_law_188 {xs : Nat → Int32} {Ls : Nat} {l0 l1 l2 l3 : Option cf_AV} {a3 a2 a1 : Int32} {t0 : cf_AV} {x1 : Int32} {w1 : cf_Wd} {w : cf_Wd} {Q : cf_Rs → Prop} (hs : F_P_write [.inr 15, .inl a1, .inl a2, .inl a3] w = some (some (.inl x1), w1)) : cf_wp (T_law xs Ls) (188, [l0, l1, l2, l3], [.inl a3, .inl a2, .inl a1, .inr 15, t0], w) Q ↔ cf_wp (T_law xs Ls) (191, [l0, l1, l2, l3], [.inl x1, t0], w1) Q := r_law_188.trans (cf_xi hs)
theorem r_law_191 {xs : Nat → Int32} {Ls : Nat} {l0 l1 l2 l3 : Option cf_AV} {x y : Int32} {st : List cf_AV} {w : cf_Wd} {Q : cf_Rs → Prop} : cf_wp (T_law xs Ls) (191, [l0, l1, l2, l3], .inl y :: .inl x :: st, w) Q ↔ (if x = y then cf_wp (T_law xs Ls) (494, [l0, l1, l2, l3], st, w) Q else cf_wp (T_law xs Ls) (194, [l0, l1, l2, l3], st, w) Q) := cf_wi rfl
theorem r_law_194 {xs : Nat → Int32} {Ls : Nat} {l0 l1 l2 l3 : Option cf_AV} {st : List cf_AV} {w : cf_Wd} {Q : cf_Rs → Prop} : cf_wp (T_law xs Ls) (194, [l0, l1, l2, l3], st, w) Q ↔ cf_wp (T_law xs Ls) (195, [l0, l1, l2, l3], .inl 0 :: st, w) Q := cf_w1 rfl
theorem r_law_195 {xs : Nat → Int32} {Ls : Nat} {l0 l1 l2 l3 : Option cf_AV} {x : Int32} {w : cf_Wd} {P : Int32 → cf_Wd → Prop} : cf_wp (T_law xs Ls) (195, [l0, l1, l2, l3], [.inl x], w) (cf_qb P) ↔ ((x = 0 ∨ x = 1) ∧ P x w) := Iff.trans (cf_wr (q := (some (.inl x), w)) rfl) Iff.rfl
theorem r_law_196 {xs : Nat → Int32} {Ls : Nat} {l0 l2 l3 : Option cf_AV} {k : Nat} {st : List cf_AV} {w : cf_Wd} {Q : cf_Rs → Prop} : cf_wp (T_law xs Ls) (196, [l0, some (.inr k), l2, l3], st, w) Q ↔ cf_wp (T_law xs Ls) (197, [l0, some (.inr k), l2, l3], .inr k :: st, w) Q := cf_w1 rfl
theorem r_law_197 {xs : Nat → Int32} {Ls : Nat} {l1 l2 l3 : Option cf_AV} {k : Nat} {st : List cf_AV} {w : cf_Wd} {Q : cf_Rs → Prop} : cf_wp (T_law xs Ls) (197, [some (.inr k), l1, l2, l3], st, w) Q ↔ cf_wp (T_law xs Ls) (198, [some (.inr k), l1, l2, l3], .inr k :: st, w) Q := cf_w1 rfl
theorem r_law_198 {xs : Nat → Int32} {Ls : Nat} {l0 l1 l2 : Option cf_AV} {x : Int32} {st : List cf_AV} {w : cf_Wd} {Q : cf_Rs → Prop} : cf_wp (T_law xs Ls) (198, [l0, l1, l2, some (.inl x)], st, w) Q ↔ cf_wp (T_law xs Ls) (199, [l0, l1, l2, some (.inl x)], .inl x :: st, w) Q := cf_w1 rfl
theorem r_law_199 {xs : Nat → Int32} {Ls : Nat} {l0 l1 l2 l3 : Option cf_AV} {st : List cf_AV} {w : cf_Wd} {Q : cf_Rs → Prop} : cf_wp (T_law xs Ls) (199, [l0, l1, l2, l3], st, w) Q ↔ cf_wp (T_law xs Ls) (200, [l0, l1, l2, l3], .inl 1 :: st, w) Q := cf_w1 rfl
theorem r_law_200 {xs : Nat → Int32} {Ls : Nat} {l0 l1 l2 l3 : Option cf_AV} {x y : Int32} {st : List cf_AV} {w : cf_Wd} {Q : cf_Rs → Prop} : cf_wp (T_law xs Ls) (200, [l0, l1, l2, l3], .inl y :: .inl x :: st, w) Q ↔ cf_wp (T_law xs Ls) (201, [l0, l1, l2, l3], .inl (x + y) :: st, w) Q := cf_w1 rfl
theorem r_law_201 {xs : Nat → Int32} {Ls : Nat} {l0 l1 l2 l3 : Option cf_AV} {i : Int32} {st : List cf_AV} {w : cf_Wd} {Q : cf_Rs → Prop} : cf_wp (T_law xs Ls) (201, [l0, l1, l2, l3], .inl i :: .inr 26 :: st, w) Q ↔ (cf_in i Ls = true ∧ cf_wp (T_law xs Ls) (202, [l0, l1, l2, l3], .inl (xs i.toNatClampNeg) :: st, w) Q) := cf_wg rfl
theorem r_law_202 {xs : Nat → Int32} {Ls : Nat} {l1 l2 l3 : Option cf_AV} {k : Nat} {st : List cf_AV} {w : cf_Wd} {Q : cf_Rs → Prop} : cf_wp (T_law xs Ls) (202, [some (.inr k), l1, l2, l3], st, w) Q ↔ cf_wp (T_law xs Ls) (203, [some (.inr k), l1, l2, l3], .inr k :: st, w) Q := cf_w1 rfl
theorem r_law_203 {xs : Nat → Int32} {Ls : Nat} {l0 l1 l2 : Option cf_AV} {x : Int32} {st : List cf_AV} {w : cf_Wd} {Q : cf_Rs → Prop} : cf_wp (T_law xs Ls) (203, [l0, l1, l2, some (.inl x)], st, w) Q ↔ cf_wp (T_law xs Ls) (204, [l0, l1, l2, some (.inl x)], .inl x :: st, w) Q := cf_w1 rfl
theorem r_law_204 {xs : Nat → Int32} {Ls : Nat} {l0 l1 l2 l3 : Option cf_AV} {st : List cf_AV} {w : cf_Wd} {Q : cf_Rs → Prop} : cf_wp (T_law xs Ls) (204, [l0, l1, l2, l3], st, w) Q ↔ cf_wp (T_law xs Ls) (205, [l0, l1, l2, l3], .inl 2 :: st, w) Q := cf_w1 rfl
theorem r_law_205 {xs : Nat → Int32} {Ls : Nat} {l0 l1 l2 l3 : Option cf_AV} {x y : Int32} {st : List cf_AV} {w : cf_Wd} {Q : cf_Rs → Prop} : cf_wp (T_law xs Ls) (205, [l0, l1, l2, l3], .inl y :: .inl x :: st, w) Q ↔ cf_wp (T_law xs Ls) (206, [l0, l1, l2, l3], .inl (x + y) :: st, w) Q := cf_w1 rfl
theorem r_law_206 {xs : Nat → Int32} {Ls : Nat} {l0 l1 l2 l3 : Option cf_AV} {i : Int32} {st : List cf_AV} {w : cf_Wd} {Q : cf_Rs → Prop} : cf_wp (T_law xs Ls) (206, [l0, l1, l2, l3], .inl i :: .inr 26 :: st, w) Q ↔ (cf_in i Ls = true ∧ cf_wp (T_law xs Ls) (207, [l0, l1, l2, l3], .inl (xs i.toNatClampNeg) :: st, w) Q) := cf_wg rfl
theorem r_law_207 {xs : Nat → Int32} {Ls : Nat} {l0 l1 l2 l3 : Option cf_AV} {a2 a1 : Int32} {w : cf_Wd} {Q : cf_Rs → Prop} : cf_wp (T_law xs Ls) (207, [l0, l1, l2, l3], [.inl a2, .inl a1, .inr 0], w) Q ↔ ∃ x w1, F_C_line [.inr 0, .inl a1, .inl a2] w = some (some (.inl x), w1) ∧ cf_wp (T_law xs Ls) (210, [l0, l1, l2, l3], [.inl x], w1) Q := cf_wci (n := 3) (F := F_C_line) (nx := 210) rfl rfl cf_F_i
theorem c_law_207 {xs : Nat → Int32} {Ls : Nat} {l0 l1 l2 l3 : Option cf_AV} {a2 a1 : Int32} {x1 : Int32} {w1 : cf_Wd} {w : cf_Wd} {Q : cf_Rs → Prop} (hs : F_C_line [.inr 0, .inl a1, .inl a2] w = some (some (.inl x1), w1)) : cf_wp (T_law xs Ls) (207, [l0, l1, l2, l3], [.inl a2, .inl a1, .inr 0], w) Q ↔ cf_wp (T_law xs Ls) (210, [l0, l1, l2, l3], [.inl x1], w1) Q := r_law_207.trans (cf_xi hs)
theorem r_law_210 {xs : Nat → Int32} {Ls : Nat} {l0 l1 l3 : Option cf_AV} {k : Nat} {st : List cf_AV} {w : cf_Wd} {Q : cf_Rs → Prop} : cf_wp (T_law xs Ls) (210, [l0, l1, some (.inr k), l3], st, w) Q ↔ cf_wp (T_law xs Ls) (211, [l0, l1, some (.inr k), l3], .inr k :: st, w) Q := cf_w1 rfl
theorem r_law_211 {xs : Nat → Int32} {Ls : Nat} {l1 l2 l3 : Option cf_AV} {k : Nat} {st : List cf_AV} {w : cf_Wd} {Q : cf_Rs → Prop} : cf_wp (T_law xs Ls) (211, [some (.inr k), l1, l2, l3], st, w) Q ↔ cf_wp (T_law xs Ls) (212, [some (.inr k), l1, l2, l3], .inr k :: st, w) Q := cf_w1 rfl
theorem r_law_212 {xs : Nat → Int32} {Ls : Nat} {l0 l1 l2 : Option cf_AV} {x : Int32} {st : List cf_AV} {w : cf_Wd} {Q : cf_Rs → Prop} : cf_wp (T_law xs Ls) (212, [l0, l1, l2, some (.inl x)], st, w) Q ↔ cf_wp (T_law xs Ls) (213, [l0, l1, l2, some (.inl x)], .inl x :: st, w) Q := cf_w1 rfl
theorem r_law_213 {xs : Nat → Int32} {Ls : Nat} {l0 l1 l2 l3 : Option cf_AV} {st : List cf_AV} {w : cf_Wd} {Q : cf_Rs → Prop} : cf_wp (T_law xs Ls) (213, [l0, l1, l2, l3], st, w) Q ↔ cf_wp (T_law xs Ls) (214, [l0, l1, l2, l3], .inl 1 :: st, w) Q := cf_w1 rfl
theorem r_law_214 {xs : Nat → Int32} {Ls : Nat} {l0 l1 l2 l3 : Option cf_AV} {x y : Int32} {st : List cf_AV} {w : cf_Wd} {Q : cf_Rs → Prop} : cf_wp (T_law xs Ls) (214, [l0, l1, l2, l3], .inl y :: .inl x :: st, w) Q ↔ cf_wp (T_law xs Ls) (215, [l0, l1, l2, l3], .inl (x + y) :: st, w) Q := cf_w1 rfl
theorem r_law_215 {xs : Nat → Int32} {Ls : Nat} {l0 l1 l2 l3 : Option cf_AV} {i : Int32} {st : List cf_AV} {w : cf_Wd} {Q : cf_Rs → Prop} : cf_wp (T_law xs Ls) (215, [l0, l1, l2, l3], .inl i :: .inr 26 :: st, w) Q ↔ (cf_in i Ls = true ∧ cf_wp (T_law xs Ls) (216, [l0, l1, l2, l3], .inl (xs i.toNatClampNeg) :: st, w) Q) := cf_wg rfl
theorem r_law_216 {xs : Nat → Int32} {Ls : Nat} {l1 l2 l3 : Option cf_AV} {k : Nat} {st : List cf_AV} {w : cf_Wd} {Q : cf_Rs → Prop} : cf_wp (T_law xs Ls) (216, [some (.inr k), l1, l2, l3], st, w) Q ↔ cf_wp (T_law xs Ls) (217, [some (.inr k), l1, l2, l3], .inr k :: st, w) Q := cf_w1 rfl
theorem r_law_217 {xs : Nat → Int32} {Ls : Nat} {l0 l1 l2 : Option cf_AV} {x : Int32} {st : List cf_AV} {w : cf_Wd} {Q : cf_Rs → Prop} : cf_wp (T_law xs Ls) (217, [l0, l1, l2, some (.inl x)], st, w) Q ↔ cf_wp (T_law xs Ls) (218, [l0, l1, l2, some (.inl x)], .inl x :: st, w) Q := cf_w1 rfl
theorem r_law_218 {xs : Nat → Int32} {Ls : Nat} {l0 l1 l2 l3 : Option cf_AV} {st : List cf_AV} {w : cf_Wd} {Q : cf_Rs → Prop} : cf_wp (T_law xs Ls) (218, [l0, l1, l2, l3], st, w) Q ↔ cf_wp (T_law xs Ls) (219, [l0, l1, l2, l3], .inl 2 :: st, w) Q := cf_w1 rfl
theorem r_law_219 {xs : Nat → Int32} {Ls : Nat} {l0 l1 l2 l3 : Option cf_AV} {x y : Int32} {st : List cf_AV} {w : cf_Wd} {Q : cf_Rs → Prop} : cf_wp (T_law xs Ls) (219, [l0, l1, l2, l3], .inl y :: .inl x :: st, w) Q ↔ cf_wp (T_law xs Ls) (220, [l0, l1, l2, l3], .inl (x + y) :: st, w) Q := cf_w1 rfl
theorem r_law_220 {xs : Nat → Int32} {Ls : Nat} {l0 l1 l2 l3 : Option cf_AV} {i : Int32} {st : List cf_AV} {w : cf_Wd} {Q : cf_Rs → Prop} : cf_wp (T_law xs Ls) (220, [l0, l1, l2, l3], .inl i :: .inr 26 :: st, w) Q ↔ (cf_in i Ls = true ∧ cf_wp (T_law xs Ls) (221, [l0, l1, l2, l3], .inl (xs i.toNatClampNeg) :: st, w) Q) := cf_wg rfl
theorem r_law_221 {xs : Nat → Int32} {Ls : Nat} {l0 l1 l2 l3 : Option cf_AV} {a2 a1 : Int32} {t0 : cf_AV} {w : cf_Wd} {Q : cf_Rs → Prop} : cf_wp (T_law xs Ls) (221, [l0, l1, l2, l3], [.inl a2, .inl a1, .inr 15, t0], w) Q ↔ ∃ x w1, F_P_line [.inr 15, .inl a1, .inl a2] w = some (some (.inl x), w1) ∧ cf_wp (T_law xs Ls) (224, [l0, l1, l2, l3], [.inl x, t0], w1) Q := cf_wci (n := 3) (F := F_P_line) (nx := 224) rfl rfl cf_F_i
theorem c_law_221 {xs : Nat → Int32} {Ls : Nat} {l0 l1 l2 l3 : Option cf_AV} {a2 a1 : Int32} {t0 : cf_AV} {x1 : Int32} {w1 : cf_Wd} {w : cf_Wd} {Q : cf_Rs → Prop} (hs : F_P_line [.inr 15, .inl a1, .inl a2] w = some (some (.inl x1), w1)) : cf_wp (T_law xs Ls) (221, [l0, l1, l2, l3], [.inl a2, .inl a1, .inr 15, t0], w) Q ↔ cf_wp (T_law xs Ls) (224, [l0, l1, l2, l3], [.inl x1, t0], w1) Q := r_law_221.trans (cf_xi hs)
theorem r_law_224 {xs : Nat → Int32} {Ls : Nat} {l0 l1 l2 l3 : Option cf_AV} {x y : Int32} {st : List cf_AV} {w : cf_Wd} {Q : cf_Rs → Prop} : cf_wp (T_law xs Ls) (224, [l0, l1, l2, l3], .inl y :: .inl x :: st, w) Q ↔ (if x = y then cf_wp (T_law xs Ls) (494, [l0, l1, l2, l3], st, w) Q else cf_wp (T_law xs Ls) (227, [l0, l1, l2, l3], st, w) Q) := cf_wi rfl
theorem r_law_227 {xs : Nat → Int32} {Ls : Nat} {l0 l1 l2 l3 : Option cf_AV} {st : List cf_AV} {w : cf_Wd} {Q : cf_Rs → Prop} : cf_wp (T_law xs Ls) (227, [l0, l1, l2, l3], st, w) Q ↔ cf_wp (T_law xs Ls) (228, [l0, l1, l2, l3], .inl 0 :: st, w) Q := cf_w1 rfl
theorem r_law_228 {xs : Nat → Int32} {Ls : Nat} {l0 l1 l2 l3 : Option cf_AV} {x : Int32} {w : cf_Wd} {P : Int32 → cf_Wd → Prop} : cf_wp (T_law xs Ls) (228, [l0, l1, l2, l3], [.inl x], w) (cf_qb P) ↔ ((x = 0 ∨ x = 1) ∧ P x w) := Iff.trans (cf_wr (q := (some (.inl x), w)) rfl) Iff.rfl
theorem r_law_229 {xs : Nat → Int32} {Ls : Nat} {l0 l2 l3 : Option cf_AV} {k : Nat} {st : List cf_AV} {w : cf_Wd} {Q : cf_Rs → Prop} : cf_wp (T_law xs Ls) (229, [l0, some (.inr k), l2, l3], st, w) Q ↔ cf_wp (T_law xs Ls) (230, [l0, some (.inr k), l2, l3], .inr k :: st, w) Q := cf_w1 rfl
theorem r_law_230 {xs : Nat → Int32} {Ls : Nat} {l1 l2 l3 : Option cf_AV} {k : Nat} {st : List cf_AV} {w : cf_Wd} {Q : cf_Rs → Prop} : cf_wp (T_law xs Ls) (230, [some (.inr k), l1, l2, l3], st, w) Q ↔ cf_wp (T_law xs Ls) (231, [some (.inr k), l1, l2, l3], .inr k :: st, w) Q := cf_w1 rfl
theorem r_law_231 {xs : Nat → Int32} {Ls : Nat} {l0 l1 l2 : Option cf_AV} {x : Int32} {st : List cf_AV} {w : cf_Wd} {Q : cf_Rs → Prop} : cf_wp (T_law xs Ls) (231, [l0, l1, l2, some (.inl x)], st, w) Q ↔ cf_wp (T_law xs Ls) (232, [l0, l1, l2, some (.inl x)], .inl x :: st, w) Q := cf_w1 rfl
theorem r_law_232 {xs : Nat → Int32} {Ls : Nat} {l0 l1 l2 l3 : Option cf_AV} {st : List cf_AV} {w : cf_Wd} {Q : cf_Rs → Prop} : cf_wp (T_law xs Ls) (232, [l0, l1, l2, l3], st, w) Q ↔ cf_wp (T_law xs Ls) (233, [l0, l1, l2, l3], .inl 1 :: st, w) Q := cf_w1 rfl
theorem r_law_233 {xs : Nat → Int32} {Ls : Nat} {l0 l1 l2 l3 : Option cf_AV} {x y : Int32} {st : List cf_AV} {w : cf_Wd} {Q : cf_Rs → Prop} : cf_wp (T_law xs Ls) (233, [l0, l1, l2, l3], .inl y :: .inl x :: st, w) Q ↔ cf_wp (T_law xs Ls) (234, [l0, l1, l2, l3], .inl (x + y) :: st, w) Q := cf_w1 rfl
theorem r_law_234 {xs : Nat → Int32} {Ls : Nat} {l0 l1 l2 l3 : Option cf_AV} {i : Int32} {st : List cf_AV} {w : cf_Wd} {Q : cf_Rs → Prop} : cf_wp (T_law xs Ls) (234, [l0, l1, l2, l3], .inl i :: .inr 26 :: st, w) Q ↔ (cf_in i Ls = true ∧ cf_wp (T_law xs Ls) (235, [l0, l1, l2, l3], .inl (xs i.toNatClampNeg) :: st, w) Q) := cf_wg rfl
theorem r_law_235 {xs : Nat → Int32} {Ls : Nat} {l1 l2 l3 : Option cf_AV} {k : Nat} {st : List cf_AV} {w : cf_Wd} {Q : cf_Rs → Prop} : cf_wp (T_law xs Ls) (235, [some (.inr k), l1, l2, l3], st, w) Q ↔ cf_wp (T_law xs Ls) (236, [some (.inr k), l1, l2, l3], .inr k :: st, w) Q := cf_w1 rfl
theorem r_law_236 {xs : Nat → Int32} {Ls : Nat} {l0 l1 l2 : Option cf_AV} {x : Int32} {st : List cf_AV} {w : cf_Wd} {Q : cf_Rs → Prop} : cf_wp (T_law xs Ls) (236, [l0, l1, l2, some (.inl x)], st, w) Q ↔ cf_wp (T_law xs Ls) (237, [l0, l1, l2, some (.inl x)], .inl x :: st, w) Q := cf_w1 rfl
theorem r_law_237 {xs : Nat → Int32} {Ls : Nat} {l0 l1 l2 l3 : Option cf_AV} {st : List cf_AV} {w : cf_Wd} {Q : cf_Rs → Prop} : cf_wp (T_law xs Ls) (237, [l0, l1, l2, l3], st, w) Q ↔ cf_wp (T_law xs Ls) (238, [l0, l1, l2, l3], .inl 2 :: st, w) Q := cf_w1 rfl
theorem r_law_238 {xs : Nat → Int32} {Ls : Nat} {l0 l1 l2 l3 : Option cf_AV} {x y : Int32} {st : List cf_AV} {w : cf_Wd} {Q : cf_Rs → Prop} : cf_wp (T_law xs Ls) (238, [l0, l1, l2, l3], .inl y :: .inl x :: st, w) Q ↔ cf_wp (T_law xs Ls) (239, [l0, l1, l2, l3], .inl (x + y) :: st, w) Q := cf_w1 rfl
theorem r_law_239 {xs : Nat → Int32} {Ls : Nat} {l0 l1 l2 l3 : Option cf_AV} {i : Int32} {st : List cf_AV} {w : cf_Wd} {Q : cf_Rs → Prop} : cf_wp (T_law xs Ls) (239, [l0, l1, l2, l3], .inl i :: .inr 26 :: st, w) Q ↔ (cf_in i Ls = true ∧ cf_wp (T_law xs Ls) (240, [l0, l1, l2, l3], .inl (xs i.toNatClampNeg) :: st, w) Q) := cf_wg rfl
theorem r_law_240 {xs : Nat → Int32} {Ls : Nat} {l0 l1 l2 l3 : Option cf_AV} {a2 a1 : Int32} {w : cf_Wd} {Q : cf_Rs → Prop} : cf_wp (T_law xs Ls) (240, [l0, l1, l2, l3], [.inl a2, .inl a1, .inr 0], w) Q ↔ ∃ x w1, F_C_verdict [.inr 0, .inl a1, .inl a2] w = some (some (.inl x), w1) ∧ cf_wp (T_law xs Ls) (243, [l0, l1, l2, l3], [.inl x], w1) Q := cf_wci (n := 3) (F := F_C_verdict) (nx := 243) rfl rfl cf_F_i
theorem c_law_240 {xs : Nat → Int32} {Ls : Nat} {l0 l1 l2 l3 : Option cf_AV} {a2 a1 : Int32} {x1 : Int32} {w1 : cf_Wd} {w : cf_Wd} {Q : cf_Rs → Prop} (hs : F_C_verdict [.inr 0, .inl a1, .inl a2] w = some (some (.inl x1), w1)) : cf_wp (T_law xs Ls) (240, [l0, l1, l2, l3], [.inl a2, .inl a1, .inr 0], w) Q ↔ cf_wp (T_law xs Ls) (243, [l0, l1, l2, l3], [.inl x1], w1) Q := r_law_240.trans (cf_xi hs)
theorem r_law_243 {xs : Nat → Int32} {Ls : Nat} {l0 l1 l3 : Option cf_AV} {k : Nat} {st : List cf_AV} {w : cf_Wd} {Q : cf_Rs → Prop} : cf_wp (T_law xs Ls) (243, [l0, l1, some (.inr k), l3], st, w) Q ↔ cf_wp (T_law xs Ls) (244, [l0, l1, some (.inr k), l3], .inr k :: st, w) Q := cf_w1 rfl
theorem r_law_244 {xs : Nat → Int32} {Ls : Nat} {l1 l2 l3 : Option cf_AV} {k : Nat} {st : List cf_AV} {w : cf_Wd} {Q : cf_Rs → Prop} : cf_wp (T_law xs Ls) (244, [some (.inr k), l1, l2, l3], st, w) Q ↔ cf_wp (T_law xs Ls) (245, [some (.inr k), l1, l2, l3], .inr k :: st, w) Q := cf_w1 rfl
theorem r_law_245 {xs : Nat → Int32} {Ls : Nat} {l0 l1 l2 : Option cf_AV} {x : Int32} {st : List cf_AV} {w : cf_Wd} {Q : cf_Rs → Prop} : cf_wp (T_law xs Ls) (245, [l0, l1, l2, some (.inl x)], st, w) Q ↔ cf_wp (T_law xs Ls) (246, [l0, l1, l2, some (.inl x)], .inl x :: st, w) Q := cf_w1 rfl
theorem r_law_246 {xs : Nat → Int32} {Ls : Nat} {l0 l1 l2 l3 : Option cf_AV} {st : List cf_AV} {w : cf_Wd} {Q : cf_Rs → Prop} : cf_wp (T_law xs Ls) (246, [l0, l1, l2, l3], st, w) Q ↔ cf_wp (T_law xs Ls) (247, [l0, l1, l2, l3], .inl 1 :: st, w) Q := cf_w1 rfl
theorem r_law_247 {xs : Nat → Int32} {Ls : Nat} {l0 l1 l2 l3 : Option cf_AV} {x y : Int32} {st : List cf_AV} {w : cf_Wd} {Q : cf_Rs → Prop} : cf_wp (T_law xs Ls) (247, [l0, l1, l2, l3], .inl y :: .inl x :: st, w) Q ↔ cf_wp (T_law xs Ls) (248, [l0, l1, l2, l3], .inl (x + y) :: st, w) Q := cf_w1 rfl
theorem r_law_248 {xs : Nat → Int32} {Ls : Nat} {l0 l1 l2 l3 : Option cf_AV} {i : Int32} {st : List cf_AV} {w : cf_Wd} {Q : cf_Rs → Prop} : cf_wp (T_law xs Ls) (248, [l0, l1, l2, l3], .inl i :: .inr 26 :: st, w) Q ↔ (cf_in i Ls = true ∧ cf_wp (T_law xs Ls) (249, [l0, l1, l2, l3], .inl (xs i.toNatClampNeg) :: st, w) Q) := cf_wg rfl
theorem r_law_249 {xs : Nat → Int32} {Ls : Nat} {l1 l2 l3 : Option cf_AV} {k : Nat} {st : List cf_AV} {w : cf_Wd} {Q : cf_Rs → Prop} : cf_wp (T_law xs Ls) (249, [some (.inr k), l1, l2, l3], st, w) Q ↔ cf_wp (T_law xs Ls) (250, [some (.inr k), l1, l2, l3], .inr k :: st, w) Q := cf_w1 rfl
theorem r_law_250 {xs : Nat → Int32} {Ls : Nat} {l0 l1 l2 : Option cf_AV} {x : Int32} {st : List cf_AV} {w : cf_Wd} {Q : cf_Rs → Prop} : cf_wp (T_law xs Ls) (250, [l0, l1, l2, some (.inl x)], st, w) Q ↔ cf_wp (T_law xs Ls) (251, [l0, l1, l2, some (.inl x)], .inl x :: st, w) Q := cf_w1 rfl
theorem r_law_251 {xs : Nat → Int32} {Ls : Nat} {l0 l1 l2 l3 : Option cf_AV} {st : List cf_AV} {w : cf_Wd} {Q : cf_Rs → Prop} : cf_wp (T_law xs Ls) (251, [l0, l1, l2, l3], st, w) Q ↔ cf_wp (T_law xs Ls) (252, [l0, l1, l2, l3], .inl 2 :: st, w) Q := cf_w1 rfl
theorem r_law_252 {xs : Nat → Int32} {Ls : Nat} {l0 l1 l2 l3 : Option cf_AV} {x y : Int32} {st : List cf_AV} {w : cf_Wd} {Q : cf_Rs → Prop} : cf_wp (T_law xs Ls) (252, [l0, l1, l2, l3], .inl y :: .inl x :: st, w) Q ↔ cf_wp (T_law xs Ls) (253, [l0, l1, l2, l3], .inl (x + y) :: st, w) Q := cf_w1 rfl
theorem r_law_253 {xs : Nat → Int32} {Ls : Nat} {l0 l1 l2 l3 : Option cf_AV} {i : Int32} {st : List cf_AV} {w : cf_Wd} {Q : cf_Rs → Prop} : cf_wp (T_law xs Ls) (253, [l0, l1, l2, l3], .inl i :: .inr 26 :: st, w) Q ↔ (cf_in i Ls = true ∧ cf_wp (T_law xs Ls) (254, [l0, l1, l2, l3], .inl (xs i.toNatClampNeg) :: st, w) Q) := cf_wg rfl
theorem r_law_254 {xs : Nat → Int32} {Ls : Nat} {l0 l1 l2 l3 : Option cf_AV} {a2 a1 : Int32} {t0 : cf_AV} {w : cf_Wd} {Q : cf_Rs → Prop} : cf_wp (T_law xs Ls) (254, [l0, l1, l2, l3], [.inl a2, .inl a1, .inr 15, t0], w) Q ↔ ∃ x w1, F_P_verdict [.inr 15, .inl a1, .inl a2] w = some (some (.inl x), w1) ∧ cf_wp (T_law xs Ls) (257, [l0, l1, l2, l3], [.inl x, t0], w1) Q := cf_wci (n := 3) (F := F_P_verdict) (nx := 257) rfl rfl cf_F_i
theorem c_law_254 {xs : Nat → Int32} {Ls : Nat} {l0 l1 l2 l3 : Option cf_AV} {a2 a1 : Int32} {t0 : cf_AV} {x1 : Int32} {w1 : cf_Wd} {w : cf_Wd} {Q : cf_Rs → Prop} (hs : F_P_verdict [.inr 15, .inl a1, .inl a2] w = some (some (.inl x1), w1)) : cf_wp (T_law xs Ls) (254, [l0, l1, l2, l3], [.inl a2, .inl a1, .inr 15, t0], w) Q ↔ cf_wp (T_law xs Ls) (257, [l0, l1, l2, l3], [.inl x1, t0], w1) Q := r_law_254.trans (cf_xi hs)
theorem r_law_257 {xs : Nat → Int32} {Ls : Nat} {l0 l1 l2 l3 : Option cf_AV} {x y : Int32} {st : List cf_AV} {w : cf_Wd} {Q : cf_Rs → Prop} : cf_wp (T_law xs Ls) (257, [l0, l1, l2, l3], .inl y :: .inl x :: st, w) Q ↔ (if x = y then cf_wp (T_law xs Ls) (494, [l0, l1, l2, l3], st, w) Q else cf_wp (T_law xs Ls) (260, [l0, l1, l2, l3], st, w) Q) := cf_wi rfl
theorem r_law_260 {xs : Nat → Int32} {Ls : Nat} {l0 l1 l2 l3 : Option cf_AV} {st : List cf_AV} {w : cf_Wd} {Q : cf_Rs → Prop} : cf_wp (T_law xs Ls) (260, [l0, l1, l2, l3], st, w) Q ↔ cf_wp (T_law xs Ls) (261, [l0, l1, l2, l3], .inl 0 :: st, w) Q := cf_w1 rfl
theorem r_law_261 {xs : Nat → Int32} {Ls : Nat} {l0 l1 l2 l3 : Option cf_AV} {x : Int32} {w : cf_Wd} {P : Int32 → cf_Wd → Prop} : cf_wp (T_law xs Ls) (261, [l0, l1, l2, l3], [.inl x], w) (cf_qb P) ↔ ((x = 0 ∨ x = 1) ∧ P x w) := Iff.trans (cf_wr (q := (some (.inl x), w)) rfl) Iff.rfl
theorem r_law_262 {xs : Nat → Int32} {Ls : Nat} {l0 l2 l3 : Option cf_AV} {k : Nat} {st : List cf_AV} {w : cf_Wd} {Q : cf_Rs → Prop} : cf_wp (T_law xs Ls) (262, [l0, some (.inr k), l2, l3], st, w) Q ↔ cf_wp (T_law xs Ls) (263, [l0, some (.inr k), l2, l3], .inr k :: st, w) Q := cf_w1 rfl
theorem r_law_263 {xs : Nat → Int32} {Ls : Nat} {l1 l2 l3 : Option cf_AV} {k : Nat} {st : List cf_AV} {w : cf_Wd} {Q : cf_Rs → Prop} : cf_wp (T_law xs Ls) (263, [some (.inr k), l1, l2, l3], st, w) Q ↔ cf_wp (T_law xs Ls) (264, [some (.inr k), l1, l2, l3], .inr k :: st, w) Q := cf_w1 rfl
theorem r_law_264 {xs : Nat → Int32} {Ls : Nat} {l0 l1 l2 : Option cf_AV} {x : Int32} {st : List cf_AV} {w : cf_Wd} {Q : cf_Rs → Prop} : cf_wp (T_law xs Ls) (264, [l0, l1, l2, some (.inl x)], st, w) Q ↔ cf_wp (T_law xs Ls) (265, [l0, l1, l2, some (.inl x)], .inl x :: st, w) Q := cf_w1 rfl
theorem r_law_265 {xs : Nat → Int32} {Ls : Nat} {l0 l1 l2 l3 : Option cf_AV} {st : List cf_AV} {w : cf_Wd} {Q : cf_Rs → Prop} : cf_wp (T_law xs Ls) (265, [l0, l1, l2, l3], st, w) Q ↔ cf_wp (T_law xs Ls) (266, [l0, l1, l2, l3], .inl 1 :: st, w) Q := cf_w1 rfl
theorem r_law_266 {xs : Nat → Int32} {Ls : Nat} {l0 l1 l2 l3 : Option cf_AV} {x y : Int32} {st : List cf_AV} {w : cf_Wd} {Q : cf_Rs → Prop} : cf_wp (T_law xs Ls) (266, [l0, l1, l2, l3], .inl y :: .inl x :: st, w) Q ↔ cf_wp (T_law xs Ls) (267, [l0, l1, l2, l3], .inl (x + y) :: st, w) Q := cf_w1 rfl
theorem r_law_267 {xs : Nat → Int32} {Ls : Nat} {l0 l1 l2 l3 : Option cf_AV} {i : Int32} {st : List cf_AV} {w : cf_Wd} {Q : cf_Rs → Prop} : cf_wp (T_law xs Ls) (267, [l0, l1, l2, l3], .inl i :: .inr 26 :: st, w) Q ↔ (cf_in i Ls = true ∧ cf_wp (T_law xs Ls) (268, [l0, l1, l2, l3], .inl (xs i.toNatClampNeg) :: st, w) Q) := cf_wg rfl
theorem r_law_268 {xs : Nat → Int32} {Ls : Nat} {l1 l2 l3 : Option cf_AV} {k : Nat} {st : List cf_AV} {w : cf_Wd} {Q : cf_Rs → Prop} : cf_wp (T_law xs Ls) (268, [some (.inr k), l1, l2, l3], st, w) Q ↔ cf_wp (T_law xs Ls) (269, [some (.inr k), l1, l2, l3], .inr k :: st, w) Q := cf_w1 rfl
theorem r_law_269 {xs : Nat → Int32} {Ls : Nat} {l0 l1 l2 : Option cf_AV} {x : Int32} {st : List cf_AV} {w : cf_Wd} {Q : cf_Rs → Prop} : cf_wp (T_law xs Ls) (269, [l0, l1, l2, some (.inl x)], st, w) Q ↔ cf_wp (T_law xs Ls) (270, [l0, l1, l2, some (.inl x)], .inl x :: st, w) Q := cf_w1 rfl
theorem r_law_270 {xs : Nat → Int32} {Ls : Nat} {l0 l1 l2 l3 : Option cf_AV} {st : List cf_AV} {w : cf_Wd} {Q : cf_Rs → Prop} : cf_wp (T_law xs Ls) (270, [l0, l1, l2, l3], st, w) Q ↔ cf_wp (T_law xs Ls) (271, [l0, l1, l2, l3], .inl 2 :: st, w) Q := cf_w1 rfl
theorem r_law_271 {xs : Nat → Int32} {Ls : Nat} {l0 l1 l2 l3 : Option cf_AV} {x y : Int32} {st : List cf_AV} {w : cf_Wd} {Q : cf_Rs → Prop} : cf_wp (T_law xs Ls) (271, [l0, l1, l2, l3], .inl y :: .inl x :: st, w) Q ↔ cf_wp (T_law xs Ls) (272, [l0, l1, l2, l3], .inl (x + y) :: st, w) Q := cf_w1 rfl
theorem r_law_272 {xs : Nat → Int32} {Ls : Nat} {l0 l1 l2 l3 : Option cf_AV} {i : Int32} {st : List cf_AV} {w : cf_Wd} {Q : cf_Rs → Prop} : cf_wp (T_law xs Ls) (272, [l0, l1, l2, l3], .inl i :: .inr 26 :: st, w) Q ↔ (cf_in i Ls = true ∧ cf_wp (T_law xs Ls) (273, [l0, l1, l2, l3], .inl (xs i.toNatClampNeg) :: st, w) Q) := cf_wg rfl
theorem r_law_273 {xs : Nat → Int32} {Ls : Nat} {l1 l2 l3 : Option cf_AV} {k : Nat} {st : List cf_AV} {w : cf_Wd} {Q : cf_Rs → Prop} : cf_wp (T_law xs Ls) (273, [some (.inr k), l1, l2, l3], st, w) Q ↔ cf_wp (T_law xs Ls) (274, [some (.inr k), l1, l2, l3], .inr k :: st, w) Q := cf_w1 rfl
theorem r_law_274 {xs : Nat → Int32} {Ls : Nat} {l0 l1 l2 : Option cf_AV} {x : Int32} {st : List cf_AV} {w : cf_Wd} {Q : cf_Rs → Prop} : cf_wp (T_law xs Ls) (274, [l0, l1, l2, some (.inl x)], st, w) Q ↔ cf_wp (T_law xs Ls) (275, [l0, l1, l2, some (.inl x)], .inl x :: st, w) Q := cf_w1 rfl
theorem r_law_275 {xs : Nat → Int32} {Ls : Nat} {l0 l1 l2 l3 : Option cf_AV} {st : List cf_AV} {w : cf_Wd} {Q : cf_Rs → Prop} : cf_wp (T_law xs Ls) (275, [l0, l1, l2, l3], st, w) Q ↔ cf_wp (T_law xs Ls) (276, [l0, l1, l2, l3], .inl 3 :: st, w) Q := cf_w1 rfl
theorem r_law_276 {xs : Nat → Int32} {Ls : Nat} {l0 l1 l2 l3 : Option cf_AV} {x y : Int32} {st : List cf_AV} {w : cf_Wd} {Q : cf_Rs → Prop} : cf_wp (T_law xs Ls) (276, [l0, l1, l2, l3], .inl y :: .inl x :: st, w) Q ↔ cf_wp (T_law xs Ls) (277, [l0, l1, l2, l3], .inl (x + y) :: st, w) Q := cf_w1 rfl
theorem r_law_277 {xs : Nat → Int32} {Ls : Nat} {l0 l1 l2 l3 : Option cf_AV} {i : Int32} {st : List cf_AV} {w : cf_Wd} {Q : cf_Rs → Prop} : cf_wp (T_law xs Ls) (277, [l0, l1, l2, l3], .inl i :: .inr 26 :: st, w) Q ↔ (cf_in i Ls = true ∧ cf_wp (T_law xs Ls) (278, [l0, l1, l2, l3], .inl (xs i.toNatClampNeg) :: st, w) Q) := cf_wg rfl
theorem r_law_278 {xs : Nat → Int32} {Ls : Nat} {l0 l1 l2 l3 : Option cf_AV} {a3 a2 a1 : Int32} {w : cf_Wd} {Q : cf_Rs → Prop} : cf_wp (T_law xs Ls) (278, [l0, l1, l2, l3], [.inl a3, .inl a2, .inl a1, .inr 0], w) Q ↔ ∃ x w1, F_C_begin [.inr 0, .inl a1, .inl a2, .inl a3] w = some (some (.inl x), w1) ∧ cf_wp (T_law xs Ls) (281, [l0, l1, l2, l3], [.inl x], w1) Q := cf_wci (n := 4) (F := F_C_begin) (nx := 281) rfl rfl cf_F_b
theorem c_law_278 {xs : Nat → Int32} {Ls : Nat} {l0 l1 l2 l3 : Option cf_AV} {a3 a2 a1 : Int32} {x1 : Int32} {w1 : cf_Wd} {w : cf_Wd} {Q : cf_Rs → Prop} (hs : F_C_begin [.inr 0, .inl a1, .inl a2, .inl a3] w = some (some (.inl x1), w1)) : cf_wp (T_law xs Ls) (278, [l0, l1, l2, l3], [.inl a3, .inl a2, .inl a1, .inr 0], w) Q ↔ cf_wp (T_law xs Ls) (281, [l0, l1, l2, l3], [.inl x1], w1) Q := r_law_278.trans (cf_xi hs)
theorem r_law_281 {xs : Nat → Int32} {Ls : Nat} {l0 l1 l3 : Option cf_AV} {k : Nat} {st : List cf_AV} {w : cf_Wd} {Q : cf_Rs → Prop} : cf_wp (T_law xs Ls) (281, [l0, l1, some (.inr k), l3], st, w) Q ↔ cf_wp (T_law xs Ls) (282, [l0, l1, some (.inr k), l3], .inr k :: st, w) Q := cf_w1 rfl
theorem r_law_282 {xs : Nat → Int32} {Ls : Nat} {l1 l2 l3 : Option cf_AV} {k : Nat} {st : List cf_AV} {w : cf_Wd} {Q : cf_Rs → Prop} : cf_wp (T_law xs Ls) (282, [some (.inr k), l1, l2, l3], st, w) Q ↔ cf_wp (T_law xs Ls) (283, [some (.inr k), l1, l2, l3], .inr k :: st, w) Q := cf_w1 rfl
theorem r_law_283 {xs : Nat → Int32} {Ls : Nat} {l0 l1 l2 : Option cf_AV} {x : Int32} {st : List cf_AV} {w : cf_Wd} {Q : cf_Rs → Prop} : cf_wp (T_law xs Ls) (283, [l0, l1, l2, some (.inl x)], st, w) Q ↔ cf_wp (T_law xs Ls) (284, [l0, l1, l2, some (.inl x)], .inl x :: st, w) Q := cf_w1 rfl
theorem r_law_284 {xs : Nat → Int32} {Ls : Nat} {l0 l1 l2 l3 : Option cf_AV} {st : List cf_AV} {w : cf_Wd} {Q : cf_Rs → Prop} : cf_wp (T_law xs Ls) (284, [l0, l1, l2, l3], st, w) Q ↔ cf_wp (T_law xs Ls) (285, [l0, l1, l2, l3], .inl 1 :: st, w) Q := cf_w1 rfl
theorem r_law_285 {xs : Nat → Int32} {Ls : Nat} {l0 l1 l2 l3 : Option cf_AV} {x y : Int32} {st : List cf_AV} {w : cf_Wd} {Q : cf_Rs → Prop} : cf_wp (T_law xs Ls) (285, [l0, l1, l2, l3], .inl y :: .inl x :: st, w) Q ↔ cf_wp (T_law xs Ls) (286, [l0, l1, l2, l3], .inl (x + y) :: st, w) Q := cf_w1 rfl
theorem r_law_286 {xs : Nat → Int32} {Ls : Nat} {l0 l1 l2 l3 : Option cf_AV} {i : Int32} {st : List cf_AV} {w : cf_Wd} {Q : cf_Rs → Prop} : cf_wp (T_law xs Ls) (286, [l0, l1, l2, l3], .inl i :: .inr 26 :: st, w) Q ↔ (cf_in i Ls = true ∧ cf_wp (T_law xs Ls) (287, [l0, l1, l2, l3], .inl (xs i.toNatClampNeg) :: st, w) Q) := cf_wg rfl
theorem r_law_287 {xs : Nat → Int32} {Ls : Nat} {l1 l2 l3 : Option cf_AV} {k : Nat} {st : List cf_AV} {w : cf_Wd} {Q : cf_Rs → Prop} : cf_wp (T_law xs Ls) (287, [some (.inr k), l1, l2, l3], st, w) Q ↔ cf_wp (T_law xs Ls) (288, [some (.inr k), l1, l2, l3], .inr k :: st, w) Q := cf_w1 rfl
theorem r_law_288 {xs : Nat → Int32} {Ls : Nat} {l0 l1 l2 : Option cf_AV} {x : Int32} {st : List cf_AV} {w : cf_Wd} {Q : cf_Rs → Prop} : cf_wp (T_law xs Ls) (288, [l0, l1, l2, some (.inl x)], st, w) Q ↔ cf_wp (T_law xs Ls) (289, [l0, l1, l2, some (.inl x)], .inl x :: st, w) Q := cf_w1 rfl
theorem r_law_289 {xs : Nat → Int32} {Ls : Nat} {l0 l1 l2 l3 : Option cf_AV} {st : List cf_AV} {w : cf_Wd} {Q : cf_Rs → Prop} : cf_wp (T_law xs Ls) (289, [l0, l1, l2, l3], st, w) Q ↔ cf_wp (T_law xs Ls) (290, [l0, l1, l2, l3], .inl 2 :: st, w) Q := cf_w1 rfl
theorem r_law_290 {xs : Nat → Int32} {Ls : Nat} {l0 l1 l2 l3 : Option cf_AV} {x y : Int32} {st : List cf_AV} {w : cf_Wd} {Q : cf_Rs → Prop} : cf_wp (T_law xs Ls) (290, [l0, l1, l2, l3], .inl y :: .inl x :: st, w) Q ↔ cf_wp (T_law xs Ls) (291, [l0, l1, l2, l3], .inl (x + y) :: st, w) Q := cf_w1 rfl
theorem r_law_291 {xs : Nat → Int32} {Ls : Nat} {l0 l1 l2 l3 : Option cf_AV} {i : Int32} {st : List cf_AV} {w : cf_Wd} {Q : cf_Rs → Prop} : cf_wp (T_law xs Ls) (291, [l0, l1, l2, l3], .inl i :: .inr 26 :: st, w) Q ↔ (cf_in i Ls = true ∧ cf_wp (T_law xs Ls) (292, [l0, l1, l2, l3], .inl (xs i.toNatClampNeg) :: st, w) Q) := cf_wg rfl
theorem r_law_292 {xs : Nat → Int32} {Ls : Nat} {l1 l2 l3 : Option cf_AV} {k : Nat} {st : List cf_AV} {w : cf_Wd} {Q : cf_Rs → Prop} : cf_wp (T_law xs Ls) (292, [some (.inr k), l1, l2, l3], st, w) Q ↔ cf_wp (T_law xs Ls) (293, [some (.inr k), l1, l2, l3], .inr k :: st, w) Q := cf_w1 rfl
theorem r_law_293 {xs : Nat → Int32} {Ls : Nat} {l0 l1 l2 : Option cf_AV} {x : Int32} {st : List cf_AV} {w : cf_Wd} {Q : cf_Rs → Prop} : cf_wp (T_law xs Ls) (293, [l0, l1, l2, some (.inl x)], st, w) Q ↔ cf_wp (T_law xs Ls) (294, [l0, l1, l2, some (.inl x)], .inl x :: st, w) Q := cf_w1 rfl
theorem r_law_294 {xs : Nat → Int32} {Ls : Nat} {l0 l1 l2 l3 : Option cf_AV} {st : List cf_AV} {w : cf_Wd} {Q : cf_Rs → Prop} : cf_wp (T_law xs Ls) (294, [l0, l1, l2, l3], st, w) Q ↔ cf_wp (T_law xs Ls) (295, [l0, l1, l2, l3], .inl 3 :: st, w) Q := cf_w1 rfl
theorem r_law_295 {xs : Nat → Int32} {Ls : Nat} {l0 l1 l2 l3 : Option cf_AV} {x y : Int32} {st : List cf_AV} {w : cf_Wd} {Q : cf_Rs → Prop} : cf_wp (T_law xs Ls) (295, [l0, l1, l2, l3], .inl y :: .inl x :: st, w) Q ↔ cf_wp (T_law xs Ls) (296, [l0, l1, l2, l3], .inl (x + y) :: st, w) Q := cf_w1 rfl
theorem r_law_296 {xs : Nat → Int32} {Ls : Nat} {l0 l1 l2 l3 : Option cf_AV} {i : Int32} {st : List cf_AV} {w : cf_Wd} {Q : cf_Rs → Prop} : cf_wp (T_law xs Ls) (296, [l0, l1, l2, l3], .inl i :: .inr 26 :: st, w) Q ↔ (cf_in i Ls = true ∧ cf_wp (T_law xs Ls) (297, [l0, l1, l2, l3], .inl (xs i.toNatClampNeg) :: st, w) Q) := cf_wg rfl
theorem r_law_297 {xs : Nat → Int32} {Ls : Nat} {l0 l1 l2 l3 : Option cf_AV} {a3 a2 a1 : Int32} {t0 : cf_AV} {w : cf_Wd} {Q : cf_Rs → Prop} : cf_wp (T_law xs Ls) (297, [l0, l1, l2, l3], [.inl a3, .inl a2, .inl a1, .inr 15, t0], w) Q ↔ ∃ x w1, F_P_begin [.inr 15, .inl a1, .inl a2, .inl a3] w = some (some (.inl x), w1) ∧ cf_wp (T_law xs Ls) (300, [l0, l1, l2, l3], [.inl x, t0], w1) Q := cf_wci (n := 4) (F := F_P_begin) (nx := 300) rfl rfl cf_F_b
theorem c_law_297 {xs : Nat → Int32} {Ls : Nat} {l0 l1 l2 l3 : Option cf_AV} {a3 a2 a1 : Int32} {t0 : cf_AV} {x1 : Int32} {w1 : cf_Wd} {w : cf_Wd} {Q : cf_Rs → Prop} (hs : F_P_begin [.inr 15, .inl a1, .inl a2, .inl a3] w = some (some (.inl x1), w1)) : cf_wp (T_law xs Ls) (297, [l0, l1, l2, l3], [.inl a3, .inl a2, .inl a1, .inr 15, t0], w) Q ↔ cf_wp (T_law xs Ls) (300, [l0, l1, l2, l3], [.inl x1, t0], w1) Q := r_law_297.trans (cf_xi hs)
theorem r_law_300 {xs : Nat → Int32} {Ls : Nat} {l0 l1 l2 l3 : Option cf_AV} {x y : Int32} {st : List cf_AV} {w : cf_Wd} {Q : cf_Rs → Prop} : cf_wp (T_law xs Ls) (300, [l0, l1, l2, l3], .inl y :: .inl x :: st, w) Q ↔ (if x = y then cf_wp (T_law xs Ls) (494, [l0, l1, l2, l3], st, w) Q else cf_wp (T_law xs Ls) (303, [l0, l1, l2, l3], st, w) Q) := cf_wi rfl
theorem r_law_303 {xs : Nat → Int32} {Ls : Nat} {l0 l1 l2 l3 : Option cf_AV} {st : List cf_AV} {w : cf_Wd} {Q : cf_Rs → Prop} : cf_wp (T_law xs Ls) (303, [l0, l1, l2, l3], st, w) Q ↔ cf_wp (T_law xs Ls) (304, [l0, l1, l2, l3], .inl 0 :: st, w) Q := cf_w1 rfl
theorem r_law_304 {xs : Nat → Int32} {Ls : Nat} {l0 l1 l2 l3 : Option cf_AV} {x : Int32} {w : cf_Wd} {P : Int32 → cf_Wd → Prop} : cf_wp (T_law xs Ls) (304, [l0, l1, l2, l3], [.inl x], w) (cf_qb P) ↔ ((x = 0 ∨ x = 1) ∧ P x w) := Iff.trans (cf_wr (q := (some (.inl x), w)) rfl) Iff.rfl
theorem r_law_305 {xs : Nat → Int32} {Ls : Nat} {l0 l2 l3 : Option cf_AV} {k : Nat} {st : List cf_AV} {w : cf_Wd} {Q : cf_Rs → Prop} : cf_wp (T_law xs Ls) (305, [l0, some (.inr k), l2, l3], st, w) Q ↔ cf_wp (T_law xs Ls) (306, [l0, some (.inr k), l2, l3], .inr k :: st, w) Q := cf_w1 rfl
theorem r_law_306 {xs : Nat → Int32} {Ls : Nat} {l0 l1 l2 l3 : Option cf_AV} {w : cf_Wd} {Q : cf_Rs → Prop} : cf_wp (T_law xs Ls) (306, [l0, l1, l2, l3], [.inr 0], w) Q ↔ ∃ x w1, F_C_end [.inr 0] w = some (some (.inl x), w1) ∧ cf_wp (T_law xs Ls) (309, [l0, l1, l2, l3], [.inl x], w1) Q := cf_wci (n := 1) (F := F_C_end) (nx := 309) rfl rfl cf_F_b
theorem c_law_306 {xs : Nat → Int32} {Ls : Nat} {l0 l1 l2 l3 : Option cf_AV} {x1 : Int32} {w1 : cf_Wd} {w : cf_Wd} {Q : cf_Rs → Prop} (hs : F_C_end [.inr 0] w = some (some (.inl x1), w1)) : cf_wp (T_law xs Ls) (306, [l0, l1, l2, l3], [.inr 0], w) Q ↔ cf_wp (T_law xs Ls) (309, [l0, l1, l2, l3], [.inl x1], w1) Q := r_law_306.trans (cf_xi hs)
theorem r_law_309 {xs : Nat → Int32} {Ls : Nat} {l0 l1 l3 : Option cf_AV} {k : Nat} {st : List cf_AV} {w : cf_Wd} {Q : cf_Rs → Prop} : cf_wp (T_law xs Ls) (309, [l0, l1, some (.inr k), l3], st, w) Q ↔ cf_wp (T_law xs Ls) (310, [l0, l1, some (.inr k), l3], .inr k :: st, w) Q := cf_w1 rfl
theorem r_law_310 {xs : Nat → Int32} {Ls : Nat} {l0 l1 l2 l3 : Option cf_AV} {t0 : cf_AV} {w : cf_Wd} {Q : cf_Rs → Prop} : cf_wp (T_law xs Ls) (310, [l0, l1, l2, l3], [.inr 15, t0], w) Q ↔ ∃ x w1, F_P_end [.inr 15] w = some (some (.inl x), w1) ∧ cf_wp (T_law xs Ls) (313, [l0, l1, l2, l3], [.inl x, t0], w1) Q := cf_wci (n := 1) (F := F_P_end) (nx := 313) rfl rfl cf_F_b
theorem c_law_310 {xs : Nat → Int32} {Ls : Nat} {l0 l1 l2 l3 : Option cf_AV} {t0 : cf_AV} {x1 : Int32} {w1 : cf_Wd} {w : cf_Wd} {Q : cf_Rs → Prop} (hs : F_P_end [.inr 15] w = some (some (.inl x1), w1)) : cf_wp (T_law xs Ls) (310, [l0, l1, l2, l3], [.inr 15, t0], w) Q ↔ cf_wp (T_law xs Ls) (313, [l0, l1, l2, l3], [.inl x1, t0], w1) Q := r_law_310.trans (cf_xi hs)
theorem r_law_313 {xs : Nat → Int32} {Ls : Nat} {l0 l1 l2 l3 : Option cf_AV} {x y : Int32} {st : List cf_AV} {w : cf_Wd} {Q : cf_Rs → Prop} : cf_wp (T_law xs Ls) (313, [l0, l1, l2, l3], .inl y :: .inl x :: st, w) Q ↔ (if x = y then cf_wp (T_law xs Ls) (494, [l0, l1, l2, l3], st, w) Q else cf_wp (T_law xs Ls) (316, [l0, l1, l2, l3], st, w) Q) := cf_wi rfl
theorem r_law_316 {xs : Nat → Int32} {Ls : Nat} {l0 l1 l2 l3 : Option cf_AV} {st : List cf_AV} {w : cf_Wd} {Q : cf_Rs → Prop} : cf_wp (T_law xs Ls) (316, [l0, l1, l2, l3], st, w) Q ↔ cf_wp (T_law xs Ls) (317, [l0, l1, l2, l3], .inl 0 :: st, w) Q := cf_w1 rfl
theorem r_law_317 {xs : Nat → Int32} {Ls : Nat} {l0 l1 l2 l3 : Option cf_AV} {x : Int32} {w : cf_Wd} {P : Int32 → cf_Wd → Prop} : cf_wp (T_law xs Ls) (317, [l0, l1, l2, l3], [.inl x], w) (cf_qb P) ↔ ((x = 0 ∨ x = 1) ∧ P x w) := Iff.trans (cf_wr (q := (some (.inl x), w)) rfl) Iff.rfl
theorem r_law_318 {xs : Nat → Int32} {Ls : Nat} {l0 l2 l3 : Option cf_AV} {k : Nat} {st : List cf_AV} {w : cf_Wd} {Q : cf_Rs → Prop} : cf_wp (T_law xs Ls) (318, [l0, some (.inr k), l2, l3], st, w) Q ↔ cf_wp (T_law xs Ls) (319, [l0, some (.inr k), l2, l3], .inr k :: st, w) Q := cf_w1 rfl
theorem r_law_319 {xs : Nat → Int32} {Ls : Nat} {l0 l1 l2 l3 : Option cf_AV} {w : cf_Wd} {Q : cf_Rs → Prop} : cf_wp (T_law xs Ls) (319, [l0, l1, l2, l3], [.inr 0], w) Q ↔ ∃ x w1, F_C_next [.inr 0] w = some (some (.inl x), w1) ∧ cf_wp (T_law xs Ls) (322, [l0, l1, l2, l3], [.inl x], w1) Q := cf_wci (n := 1) (F := F_C_next) (nx := 322) rfl rfl cf_F_i
theorem c_law_319 {xs : Nat → Int32} {Ls : Nat} {l0 l1 l2 l3 : Option cf_AV} {x1 : Int32} {w1 : cf_Wd} {w : cf_Wd} {Q : cf_Rs → Prop} (hs : F_C_next [.inr 0] w = some (some (.inl x1), w1)) : cf_wp (T_law xs Ls) (319, [l0, l1, l2, l3], [.inr 0], w) Q ↔ cf_wp (T_law xs Ls) (322, [l0, l1, l2, l3], [.inl x1], w1) Q := r_law_319.trans (cf_xi hs)
theorem r_law_322 {xs : Nat → Int32} {Ls : Nat} {l0 l1 l3 : Option cf_AV} {k : Nat} {st : List cf_AV} {w : cf_Wd} {Q : cf_Rs → Prop} : cf_wp (T_law xs Ls) (322, [l0, l1, some (.inr k), l3], st, w) Q ↔ cf_wp (T_law xs Ls) (323, [l0, l1, some (.inr k), l3], .inr k :: st, w) Q := cf_w1 rfl
theorem r_law_323 {xs : Nat → Int32} {Ls : Nat} {l0 l1 l2 l3 : Option cf_AV} {t0 : cf_AV} {w : cf_Wd} {Q : cf_Rs → Prop} : cf_wp (T_law xs Ls) (323, [l0, l1, l2, l3], [.inr 15, t0], w) Q ↔ ∃ x w1, F_P_next [.inr 15] w = some (some (.inl x), w1) ∧ cf_wp (T_law xs Ls) (326, [l0, l1, l2, l3], [.inl x, t0], w1) Q := cf_wci (n := 1) (F := F_P_next) (nx := 326) rfl rfl cf_F_i
theorem c_law_323 {xs : Nat → Int32} {Ls : Nat} {l0 l1 l2 l3 : Option cf_AV} {t0 : cf_AV} {x1 : Int32} {w1 : cf_Wd} {w : cf_Wd} {Q : cf_Rs → Prop} (hs : F_P_next [.inr 15] w = some (some (.inl x1), w1)) : cf_wp (T_law xs Ls) (323, [l0, l1, l2, l3], [.inr 15, t0], w) Q ↔ cf_wp (T_law xs Ls) (326, [l0, l1, l2, l3], [.inl x1, t0], w1) Q := r_law_323.trans (cf_xi hs)
theorem r_law_326 {xs : Nat → Int32} {Ls : Nat} {l0 l1 l2 l3 : Option cf_AV} {x y : Int32} {st : List cf_AV} {w : cf_Wd} {Q : cf_Rs → Prop} : cf_wp (T_law xs Ls) (326, [l0, l1, l2, l3], .inl y :: .inl x :: st, w) Q ↔ (if x = y then cf_wp (T_law xs Ls) (494, [l0, l1, l2, l3], st, w) Q else cf_wp (T_law xs Ls) (329, [l0, l1, l2, l3], st, w) Q) := cf_wi rfl
theorem r_law_329 {xs : Nat → Int32} {Ls : Nat} {l0 l1 l2 l3 : Option cf_AV} {st : List cf_AV} {w : cf_Wd} {Q : cf_Rs → Prop} : cf_wp (T_law xs Ls) (329, [l0, l1, l2, l3], st, w) Q ↔ cf_wp (T_law xs Ls) (330, [l0, l1, l2, l3], .inl 0 :: st, w) Q := cf_w1 rfl
theorem r_law_330 {xs : Nat → Int32} {Ls : Nat} {l0 l1 l2 l3 : Option cf_AV} {x : Int32} {w : cf_Wd} {P : Int32 → cf_Wd → Prop} : cf_wp (T_law xs Ls) (330, [l0, l1, l2, l3], [.inl x], w) (cf_qb P) ↔ ((x = 0 ∨ x = 1) ∧ P x w) := Iff.trans (cf_wr (q := (some (.inl x), w)) rfl) Iff.rfl
theorem r_law_331 {xs : Nat → Int32} {Ls : Nat} {l0 l2 l3 : Option cf_AV} {k : Nat} {st : List cf_AV} {w : cf_Wd} {Q : cf_Rs → Prop} : cf_wp (T_law xs Ls) (331, [l0, some (.inr k), l2, l3], st, w) Q ↔ cf_wp (T_law xs Ls) (332, [l0, some (.inr k), l2, l3], .inr k :: st, w) Q := cf_w1 rfl
theorem r_law_332 {xs : Nat → Int32} {Ls : Nat} {l0 l1 l2 l3 : Option cf_AV} {w : cf_Wd} {Q : cf_Rs → Prop} : cf_wp (T_law xs Ls) (332, [l0, l1, l2, l3], [.inr 0], w) Q ↔ ∃ x w1, F_C_start [.inr 0] w = some (some (.inl x), w1) ∧ cf_wp (T_law xs Ls) (335, [l0, l1, l2, l3], [.inl x], w1) Q := cf_wci (n := 1) (F := F_C_start) (nx := 335) rfl rfl cf_F_b
theorem c_law_332 {xs : Nat → Int32} {Ls : Nat} {l0 l1 l2 l3 : Option cf_AV} {x1 : Int32} {w1 : cf_Wd} {w : cf_Wd} {Q : cf_Rs → Prop} (hs : F_C_start [.inr 0] w = some (some (.inl x1), w1)) : cf_wp (T_law xs Ls) (332, [l0, l1, l2, l3], [.inr 0], w) Q ↔ cf_wp (T_law xs Ls) (335, [l0, l1, l2, l3], [.inl x1], w1) Q := r_law_332.trans (cf_xi hs)
theorem r_law_335 {xs : Nat → Int32} {Ls : Nat} {l0 l1 l3 : Option cf_AV} {k : Nat} {st : List cf_AV} {w : cf_Wd} {Q : cf_Rs → Prop} : cf_wp (T_law xs Ls) (335, [l0, l1, some (.inr k), l3], st, w) Q ↔ cf_wp (T_law xs Ls) (336, [l0, l1, some (.inr k), l3], .inr k :: st, w) Q := cf_w1 rfl
theorem r_law_336 {xs : Nat → Int32} {Ls : Nat} {l0 l1 l2 l3 : Option cf_AV} {t0 : cf_AV} {w : cf_Wd} {Q : cf_Rs → Prop} : cf_wp (T_law xs Ls) (336, [l0, l1, l2, l3], [.inr 15, t0], w) Q ↔ ∃ x w1, F_P_start [.inr 15] w = some (some (.inl x), w1) ∧ cf_wp (T_law xs Ls) (339, [l0, l1, l2, l3], [.inl x, t0], w1) Q := cf_wci (n := 1) (F := F_P_start) (nx := 339) rfl rfl cf_F_b
theorem c_law_336 {xs : Nat → Int32} {Ls : Nat} {l0 l1 l2 l3 : Option cf_AV} {t0 : cf_AV} {x1 : Int32} {w1 : cf_Wd} {w : cf_Wd} {Q : cf_Rs → Prop} (hs : F_P_start [.inr 15] w = some (some (.inl x1), w1)) : cf_wp (T_law xs Ls) (336, [l0, l1, l2, l3], [.inr 15, t0], w) Q ↔ cf_wp (T_law xs Ls) (339, [l0, l1, l2, l3], [.inl x1, t0], w1) Q := r_law_336.trans (cf_xi hs)
theorem r_law_339 {xs : Nat → Int32} {Ls : Nat} {l0 l1 l2 l3 : Option cf_AV} {x y : Int32} {st : List cf_AV} {w : cf_Wd} {Q : cf_Rs → Prop} : cf_wp (T_law xs Ls) (339, [l0, l1, l2, l3], .inl y :: .inl x :: st, w) Q ↔ (if x = y then cf_wp (T_law xs Ls) (494, [l0, l1, l2, l3], st, w) Q else cf_wp (T_law xs Ls) (342, [l0, l1, l2, l3], st, w) Q) := cf_wi rfl
theorem r_law_342 {xs : Nat → Int32} {Ls : Nat} {l0 l1 l2 l3 : Option cf_AV} {st : List cf_AV} {w : cf_Wd} {Q : cf_Rs → Prop} : cf_wp (T_law xs Ls) (342, [l0, l1, l2, l3], st, w) Q ↔ cf_wp (T_law xs Ls) (343, [l0, l1, l2, l3], .inl 0 :: st, w) Q := cf_w1 rfl
theorem r_law_343 {xs : Nat → Int32} {Ls : Nat} {l0 l1 l2 l3 : Option cf_AV} {x : Int32} {w : cf_Wd} {P : Int32 → cf_Wd → Prop} : cf_wp (T_law xs Ls) (343, [l0, l1, l2, l3], [.inl x], w) (cf_qb P) ↔ ((x = 0 ∨ x = 1) ∧ P x w) := Iff.trans (cf_wr (q := (some (.inl x), w)) rfl) Iff.rfl
theorem r_law_344 {xs : Nat → Int32} {Ls : Nat} {l0 l2 l3 : Option cf_AV} {k : Nat} {st : List cf_AV} {w : cf_Wd} {Q : cf_Rs → Prop} : cf_wp (T_law xs Ls) (344, [l0, some (.inr k), l2, l3], st, w) Q ↔ cf_wp (T_law xs Ls) (345, [l0, some (.inr k), l2, l3], .inr k :: st, w) Q := cf_w1 rfl
theorem r_law_345 {xs : Nat → Int32} {Ls : Nat} {l0 l1 l2 l3 : Option cf_AV} {w : cf_Wd} {Q : cf_Rs → Prop} : cf_wp (T_law xs Ls) (345, [l0, l1, l2, l3], [.inr 0], w) Q ↔ ∃ x w1, F_C_finish [.inr 0] w = some (some (.inl x), w1) ∧ cf_wp (T_law xs Ls) (348, [l0, l1, l2, l3], [.inl x], w1) Q := cf_wci (n := 1) (F := F_C_finish) (nx := 348) rfl rfl cf_F_i
theorem c_law_345 {xs : Nat → Int32} {Ls : Nat} {l0 l1 l2 l3 : Option cf_AV} {x1 : Int32} {w1 : cf_Wd} {w : cf_Wd} {Q : cf_Rs → Prop} (hs : F_C_finish [.inr 0] w = some (some (.inl x1), w1)) : cf_wp (T_law xs Ls) (345, [l0, l1, l2, l3], [.inr 0], w) Q ↔ cf_wp (T_law xs Ls) (348, [l0, l1, l2, l3], [.inl x1], w1) Q := r_law_345.trans (cf_xi hs)
theorem r_law_348 {xs : Nat → Int32} {Ls : Nat} {l0 l1 l3 : Option cf_AV} {k : Nat} {st : List cf_AV} {w : cf_Wd} {Q : cf_Rs → Prop} : cf_wp (T_law xs Ls) (348, [l0, l1, some (.inr k), l3], st, w) Q ↔ cf_wp (T_law xs Ls) (349, [l0, l1, some (.inr k), l3], .inr k :: st, w) Q := cf_w1 rfl
theorem r_law_349 {xs : Nat → Int32} {Ls : Nat} {l0 l1 l2 l3 : Option cf_AV} {t0 : cf_AV} {w : cf_Wd} {Q : cf_Rs → Prop} : cf_wp (T_law xs Ls) (349, [l0, l1, l2, l3], [.inr 15, t0], w) Q ↔ ∃ x w1, F_P_finish [.inr 15] w = some (some (.inl x), w1) ∧ cf_wp (T_law xs Ls) (352, [l0, l1, l2, l3], [.inl x, t0], w1) Q := cf_wci (n := 1) (F := F_P_finish) (nx := 352) rfl rfl cf_F_i
theorem c_law_349 {xs : Nat → Int32} {Ls : Nat} {l0 l1 l2 l3 : Option cf_AV} {t0 : cf_AV} {x1 : Int32} {w1 : cf_Wd} {w : cf_Wd} {Q : cf_Rs → Prop} (hs : F_P_finish [.inr 15] w = some (some (.inl x1), w1)) : cf_wp (T_law xs Ls) (349, [l0, l1, l2, l3], [.inr 15, t0], w) Q ↔ cf_wp (T_law xs Ls) (352, [l0, l1, l2, l3], [.inl x1, t0], w1) Q := r_law_349.trans (cf_xi hs)
theorem r_law_352 {xs : Nat → Int32} {Ls : Nat} {l0 l1 l2 l3 : Option cf_AV} {x y : Int32} {st : List cf_AV} {w : cf_Wd} {Q : cf_Rs → Prop} : cf_wp (T_law xs Ls) (352, [l0, l1, l2, l3], .inl y :: .inl x :: st, w) Q ↔ (if x = y then cf_wp (T_law xs Ls) (494, [l0, l1, l2, l3], st, w) Q else cf_wp (T_law xs Ls) (355, [l0, l1, l2, l3], st, w) Q) := cf_wi rfl
theorem r_law_355 {xs : Nat → Int32} {Ls : Nat} {l0 l1 l2 l3 : Option cf_AV} {st : List cf_AV} {w : cf_Wd} {Q : cf_Rs → Prop} : cf_wp (T_law xs Ls) (355, [l0, l1, l2, l3], st, w) Q ↔ cf_wp (T_law xs Ls) (356, [l0, l1, l2, l3], .inl 0 :: st, w) Q := cf_w1 rfl
theorem r_law_356 {xs : Nat → Int32} {Ls : Nat} {l0 l1 l2 l3 : Option cf_AV} {x : Int32} {w : cf_Wd} {P : Int32 → cf_Wd → Prop} : cf_wp (T_law xs Ls) (356, [l0, l1, l2, l3], [.inl x], w) (cf_qb P) ↔ ((x = 0 ∨ x = 1) ∧ P x w) := Iff.trans (cf_wr (q := (some (.inl x), w)) rfl) Iff.rfl
theorem r_law_357 {xs : Nat → Int32} {Ls : Nat} {l0 l2 l3 : Option cf_AV} {k : Nat} {st : List cf_AV} {w : cf_Wd} {Q : cf_Rs → Prop} : cf_wp (T_law xs Ls) (357, [l0, some (.inr k), l2, l3], st, w) Q ↔ cf_wp (T_law xs Ls) (358, [l0, some (.inr k), l2, l3], .inr k :: st, w) Q := cf_w1 rfl
theorem r_law_358 {xs : Nat → Int32} {Ls : Nat} {l0 l1 l2 l3 : Option cf_AV} {w : cf_Wd} {Q : cf_Rs → Prop} : cf_wp (T_law xs Ls) (358, [l0, l1, l2, l3], [.inr 0], w) Q ↔ ∃ x w1, F_C_crash [.inr 0] w = some (some (.inl x), w1) ∧ cf_wp (T_law xs Ls) (361, [l0, l1, l2, l3], [.inl x], w1) Q := cf_wci (n := 1) (F := F_C_crash) (nx := 361) rfl rfl cf_F_b
theorem c_law_358 {xs : Nat → Int32} {Ls : Nat} {l0 l1 l2 l3 : Option cf_AV} {x1 : Int32} {w1 : cf_Wd} {w : cf_Wd} {Q : cf_Rs → Prop} (hs : F_C_crash [.inr 0] w = some (some (.inl x1), w1)) : cf_wp (T_law xs Ls) (358, [l0, l1, l2, l3], [.inr 0], w) Q ↔ cf_wp (T_law xs Ls) (361, [l0, l1, l2, l3], [.inl x1], w1) Q := r_law_358.trans (cf_xi hs)
theorem r_law_361 {xs : Nat → Int32} {Ls : Nat} {l0 l1 l3 : Option cf_AV} {k : Nat} {st : List cf_AV} {w : cf_Wd} {Q : cf_Rs → Prop} : cf_wp (T_law xs Ls) (361, [l0, l1, some (.inr k), l3], st, w) Q ↔ cf_wp (T_law xs Ls) (362, [l0, l1, some (.inr k), l3], .inr k :: st, w) Q := cf_w1 rfl
theorem r_law_362 {xs : Nat → Int32} {Ls : Nat} {l0 l1 l2 l3 : Option cf_AV} {t0 : cf_AV} {w : cf_Wd} {Q : cf_Rs → Prop} : cf_wp (T_law xs Ls) (362, [l0, l1, l2, l3], [.inr 15, t0], w) Q ↔ ∃ x w1, F_P_crash [.inr 15] w = some (some (.inl x), w1) ∧ cf_wp (T_law xs Ls) (365, [l0, l1, l2, l3], [.inl x, t0], w1) Q := cf_wci (n := 1) (F := F_P_crash) (nx := 365) rfl rfl cf_F_b
theorem c_law_362 {xs : Nat → Int32} {Ls : Nat} {l0 l1 l2 l3 : Option cf_AV} {t0 : cf_AV} {x1 : Int32} {w1 : cf_Wd} {w : cf_Wd} {Q : cf_Rs → Prop} (hs : F_P_crash [.inr 15] w = some (some (.inl x1), w1)) : cf_wp (T_law xs Ls) (362, [l0, l1, l2, l3], [.inr 15, t0], w) Q ↔ cf_wp (T_law xs Ls) (365, [l0, l1, l2, l3], [.inl x1, t0], w1) Q := r_law_362.trans (cf_xi hs)
theorem r_law_365 {xs : Nat → Int32} {Ls : Nat} {l0 l1 l2 l3 : Option cf_AV} {x y : Int32} {st : List cf_AV} {w : cf_Wd} {Q : cf_Rs → Prop} : cf_wp (T_law xs Ls) (365, [l0, l1, l2, l3], .inl y :: .inl x :: st, w) Q ↔ (if x = y then cf_wp (T_law xs Ls) (494, [l0, l1, l2, l3], st, w) Q else cf_wp (T_law xs Ls) (368, [l0, l1, l2, l3], st, w) Q) := cf_wi rfl
theorem r_law_368 {xs : Nat → Int32} {Ls : Nat} {l0 l1 l2 l3 : Option cf_AV} {st : List cf_AV} {w : cf_Wd} {Q : cf_Rs → Prop} : cf_wp (T_law xs Ls) (368, [l0, l1, l2, l3], st, w) Q ↔ cf_wp (T_law xs Ls) (369, [l0, l1, l2, l3], .inl 0 :: st, w) Q := cf_w1 rfl
theorem r_law_369 {xs : Nat → Int32} {Ls : Nat} {l0 l1 l2 l3 : Option cf_AV} {x : Int32} {w : cf_Wd} {P : Int32 → cf_Wd → Prop} : cf_wp (T_law xs Ls) (369, [l0, l1, l2, l3], [.inl x], w) (cf_qb P) ↔ ((x = 0 ∨ x = 1) ∧ P x w) := Iff.trans (cf_wr (q := (some (.inl x), w)) rfl) Iff.rfl
theorem r_law_370 {xs : Nat → Int32} {Ls : Nat} {l0 l2 l3 : Option cf_AV} {k : Nat} {st : List cf_AV} {w : cf_Wd} {Q : cf_Rs → Prop} : cf_wp (T_law xs Ls) (370, [l0, some (.inr k), l2, l3], st, w) Q ↔ cf_wp (T_law xs Ls) (371, [l0, some (.inr k), l2, l3], .inr k :: st, w) Q := cf_w1 rfl
theorem r_law_371 {xs : Nat → Int32} {Ls : Nat} {l0 l1 l2 l3 : Option cf_AV} {w : cf_Wd} {Q : cf_Rs → Prop} : cf_wp (T_law xs Ls) (371, [l0, l1, l2, l3], [.inr 0], w) Q ↔ ∃ x w1, F_C_journal [.inr 0] w = some (some (.inl x), w1) ∧ cf_wp (T_law xs Ls) (374, [l0, l1, l2, l3], [.inl x], w1) Q := cf_wci (n := 1) (F := F_C_journal) (nx := 374) rfl rfl cf_F_i
theorem c_law_371 {xs : Nat → Int32} {Ls : Nat} {l0 l1 l2 l3 : Option cf_AV} {x1 : Int32} {w1 : cf_Wd} {w : cf_Wd} {Q : cf_Rs → Prop} (hs : F_C_journal [.inr 0] w = some (some (.inl x1), w1)) : cf_wp (T_law xs Ls) (371, [l0, l1, l2, l3], [.inr 0], w) Q ↔ cf_wp (T_law xs Ls) (374, [l0, l1, l2, l3], [.inl x1], w1) Q := r_law_371.trans (cf_xi hs)
theorem r_law_374 {xs : Nat → Int32} {Ls : Nat} {l0 l1 l3 : Option cf_AV} {k : Nat} {st : List cf_AV} {w : cf_Wd} {Q : cf_Rs → Prop} : cf_wp (T_law xs Ls) (374, [l0, l1, some (.inr k), l3], st, w) Q ↔ cf_wp (T_law xs Ls) (375, [l0, l1, some (.inr k), l3], .inr k :: st, w) Q := cf_w1 rfl
theorem r_law_375 {xs : Nat → Int32} {Ls : Nat} {l0 l1 l2 l3 : Option cf_AV} {t0 : cf_AV} {w : cf_Wd} {Q : cf_Rs → Prop} : cf_wp (T_law xs Ls) (375, [l0, l1, l2, l3], [.inr 15, t0], w) Q ↔ ∃ x w1, F_P_journal [.inr 15] w = some (some (.inl x), w1) ∧ cf_wp (T_law xs Ls) (378, [l0, l1, l2, l3], [.inl x, t0], w1) Q := cf_wci (n := 1) (F := F_P_journal) (nx := 378) rfl rfl cf_F_i
theorem c_law_375 {xs : Nat → Int32} {Ls : Nat} {l0 l1 l2 l3 : Option cf_AV} {t0 : cf_AV} {x1 : Int32} {w1 : cf_Wd} {w : cf_Wd} {Q : cf_Rs → Prop} (hs : F_P_journal [.inr 15] w = some (some (.inl x1), w1)) : cf_wp (T_law xs Ls) (375, [l0, l1, l2, l3], [.inr 15, t0], w) Q ↔ cf_wp (T_law xs Ls) (378, [l0, l1, l2, l3], [.inl x1, t0], w1) Q := r_law_375.trans (cf_xi hs)
theorem r_law_378 {xs : Nat → Int32} {Ls : Nat} {l0 l1 l2 l3 : Option cf_AV} {x y : Int32} {st : List cf_AV} {w : cf_Wd} {Q : cf_Rs → Prop} : cf_wp (T_law xs Ls) (378, [l0, l1, l2, l3], .inl y :: .inl x :: st, w) Q ↔ (if x = y then cf_wp (T_law xs Ls) (494, [l0, l1, l2, l3], st, w) Q else cf_wp (T_law xs Ls) (381, [l0, l1, l2, l3], st, w) Q) := cf_wi rfl
theorem r_law_381 {xs : Nat → Int32} {Ls : Nat} {l0 l1 l2 l3 : Option cf_AV} {st : List cf_AV} {w : cf_Wd} {Q : cf_Rs → Prop} : cf_wp (T_law xs Ls) (381, [l0, l1, l2, l3], st, w) Q ↔ cf_wp (T_law xs Ls) (382, [l0, l1, l2, l3], .inl 0 :: st, w) Q := cf_w1 rfl
theorem r_law_382 {xs : Nat → Int32} {Ls : Nat} {l0 l1 l2 l3 : Option cf_AV} {x : Int32} {w : cf_Wd} {P : Int32 → cf_Wd → Prop} : cf_wp (T_law xs Ls) (382, [l0, l1, l2, l3], [.inl x], w) (cf_qb P) ↔ ((x = 0 ∨ x = 1) ∧ P x w) := Iff.trans (cf_wr (q := (some (.inl x), w)) rfl) Iff.rfl
theorem r_law_383 {xs : Nat → Int32} {Ls : Nat} {l0 l2 l3 : Option cf_AV} {k : Nat} {st : List cf_AV} {w : cf_Wd} {Q : cf_Rs → Prop} : cf_wp (T_law xs Ls) (383, [l0, some (.inr k), l2, l3], st, w) Q ↔ cf_wp (T_law xs Ls) (384, [l0, some (.inr k), l2, l3], .inr k :: st, w) Q := cf_w1 rfl
theorem r_law_384 {xs : Nat → Int32} {Ls : Nat} {l1 l2 l3 : Option cf_AV} {k : Nat} {st : List cf_AV} {w : cf_Wd} {Q : cf_Rs → Prop} : cf_wp (T_law xs Ls) (384, [some (.inr k), l1, l2, l3], st, w) Q ↔ cf_wp (T_law xs Ls) (385, [some (.inr k), l1, l2, l3], .inr k :: st, w) Q := cf_w1 rfl
theorem r_law_385 {xs : Nat → Int32} {Ls : Nat} {l0 l1 l2 : Option cf_AV} {x : Int32} {st : List cf_AV} {w : cf_Wd} {Q : cf_Rs → Prop} : cf_wp (T_law xs Ls) (385, [l0, l1, l2, some (.inl x)], st, w) Q ↔ cf_wp (T_law xs Ls) (386, [l0, l1, l2, some (.inl x)], .inl x :: st, w) Q := cf_w1 rfl
theorem r_law_386 {xs : Nat → Int32} {Ls : Nat} {l0 l1 l2 l3 : Option cf_AV} {st : List cf_AV} {w : cf_Wd} {Q : cf_Rs → Prop} : cf_wp (T_law xs Ls) (386, [l0, l1, l2, l3], st, w) Q ↔ cf_wp (T_law xs Ls) (387, [l0, l1, l2, l3], .inl 1 :: st, w) Q := cf_w1 rfl
theorem r_law_387 {xs : Nat → Int32} {Ls : Nat} {l0 l1 l2 l3 : Option cf_AV} {x y : Int32} {st : List cf_AV} {w : cf_Wd} {Q : cf_Rs → Prop} : cf_wp (T_law xs Ls) (387, [l0, l1, l2, l3], .inl y :: .inl x :: st, w) Q ↔ cf_wp (T_law xs Ls) (388, [l0, l1, l2, l3], .inl (x + y) :: st, w) Q := cf_w1 rfl
theorem r_law_388 {xs : Nat → Int32} {Ls : Nat} {l0 l1 l2 l3 : Option cf_AV} {i : Int32} {st : List cf_AV} {w : cf_Wd} {Q : cf_Rs → Prop} : cf_wp (T_law xs Ls) (388, [l0, l1, l2, l3], .inl i :: .inr 26 :: st, w) Q ↔ (cf_in i Ls = true ∧ cf_wp (T_law xs Ls) (389, [l0, l1, l2, l3], .inl (xs i.toNatClampNeg) :: st, w) Q) := cf_wg rfl
theorem r_law_389 {xs : Nat → Int32} {Ls : Nat} {l0 l1 l2 l3 : Option cf_AV} {a1 : Int32} {w : cf_Wd} {Q : cf_Rs → Prop} : cf_wp (T_law xs Ls) (389, [l0, l1, l2, l3], [.inl a1, .inr 0], w) Q ↔ ∃ x w1, F_C_entry [.inr 0, .inl a1] w = some (some (.inl x), w1) ∧ cf_wp (T_law xs Ls) (392, [l0, l1, l2, l3], [.inl x], w1) Q := cf_wci (n := 2) (F := F_C_entry) (nx := 392) rfl rfl cf_F_i
theorem c_law_389 {xs : Nat → Int32} {Ls : Nat} {l0 l1 l2 l3 : Option cf_AV} {a1 : Int32} {x1 : Int32} {w1 : cf_Wd} {w : cf_Wd} {Q : cf_Rs → Prop} (hs : F_C_entry [.inr 0, .inl a1] w = some (some (.inl x1), w1)) : cf_wp (T_law xs Ls) (389, [l0, l1, l2, l3], [.inl a1, .inr 0], w) Q ↔ cf_wp (T_law xs Ls) (392, [l0, l1, l2, l3], [.inl x1], w1) Q := r_law_389.trans (cf_xi hs)
theorem r_law_392 {xs : Nat → Int32} {Ls : Nat} {l0 l1 l3 : Option cf_AV} {k : Nat} {st : List cf_AV} {w : cf_Wd} {Q : cf_Rs → Prop} : cf_wp (T_law xs Ls) (392, [l0, l1, some (.inr k), l3], st, w) Q ↔ cf_wp (T_law xs Ls) (393, [l0, l1, some (.inr k), l3], .inr k :: st, w) Q := cf_w1 rfl
theorem r_law_393 {xs : Nat → Int32} {Ls : Nat} {l1 l2 l3 : Option cf_AV} {k : Nat} {st : List cf_AV} {w : cf_Wd} {Q : cf_Rs → Prop} : cf_wp (T_law xs Ls) (393, [some (.inr k), l1, l2, l3], st, w) Q ↔ cf_wp (T_law xs Ls) (394, [some (.inr k), l1, l2, l3], .inr k :: st, w) Q := cf_w1 rfl
theorem r_law_394 {xs : Nat → Int32} {Ls : Nat} {l0 l1 l2 : Option cf_AV} {x : Int32} {st : List cf_AV} {w : cf_Wd} {Q : cf_Rs → Prop} : cf_wp (T_law xs Ls) (394, [l0, l1, l2, some (.inl x)], st, w) Q ↔ cf_wp (T_law xs Ls) (395, [l0, l1, l2, some (.inl x)], .inl x :: st, w) Q := cf_w1 rfl
theorem r_law_395 {xs : Nat → Int32} {Ls : Nat} {l0 l1 l2 l3 : Option cf_AV} {st : List cf_AV} {w : cf_Wd} {Q : cf_Rs → Prop} : cf_wp (T_law xs Ls) (395, [l0, l1, l2, l3], st, w) Q ↔ cf_wp (T_law xs Ls) (396, [l0, l1, l2, l3], .inl 1 :: st, w) Q := cf_w1 rfl
theorem r_law_396 {xs : Nat → Int32} {Ls : Nat} {l0 l1 l2 l3 : Option cf_AV} {x y : Int32} {st : List cf_AV} {w : cf_Wd} {Q : cf_Rs → Prop} : cf_wp (T_law xs Ls) (396, [l0, l1, l2, l3], .inl y :: .inl x :: st, w) Q ↔ cf_wp (T_law xs Ls) (397, [l0, l1, l2, l3], .inl (x + y) :: st, w) Q := cf_w1 rfl
theorem r_law_397 {xs : Nat → Int32} {Ls : Nat} {l0 l1 l2 l3 : Option cf_AV} {i : Int32} {st : List cf_AV} {w : cf_Wd} {Q : cf_Rs → Prop} : cf_wp (T_law xs Ls) (397, [l0, l1, l2, l3], .inl i :: .inr 26 :: st, w) Q ↔ (cf_in i Ls = true ∧ cf_wp (T_law xs Ls) (398, [l0, l1, l2, l3], .inl (xs i.toNatClampNeg) :: st, w) Q) := cf_wg rfl
theorem r_law_398 {xs : Nat → Int32} {Ls : Nat} {l0 l1 l2 l3 : Option cf_AV} {a1 : Int32} {t0 : cf_AV} {w : cf_Wd} {Q : cf_Rs → Prop} : cf_wp (T_law xs Ls) (398, [l0, l1, l2, l3], [.inl a1, .inr 15, t0], w) Q ↔ ∃ x w1, F_P_entry [.inr 15, .inl a1] w = some (some (.inl x), w1) ∧ cf_wp (T_law xs Ls) (401, [l0, l1, l2, l3], [.inl x, t0], w1) Q := cf_wci (n := 2) (F := F_P_entry) (nx := 401) rfl rfl cf_F_i
theorem c_law_398 {xs : Nat → Int32} {Ls : Nat} {l0 l1 l2 l3 : Option cf_AV} {a1 : Int32} {t0 : cf_AV} {x1 : Int32} {w1 : cf_Wd} {w : cf_Wd} {Q : cf_Rs → Prop} (hs : F_P_entry [.inr 15, .inl a1] w = some (some (.inl x1), w1)) : cf_wp (T_law xs Ls) (398, [l0, l1, l2, l3], [.inl a1, .inr 15, t0], w) Q ↔ cf_wp (T_law xs Ls) (401, [l0, l1, l2, l3], [.inl x1, t0], w1) Q := r_law_398.trans (cf_xi hs)
theorem r_law_401 {xs : Nat → Int32} {Ls : Nat} {l0 l1 l2 l3 : Option cf_AV} {x y : Int32} {st : List cf_AV} {w : cf_Wd} {Q : cf_Rs → Prop} : cf_wp (T_law xs Ls) (401, [l0, l1, l2, l3], .inl y :: .inl x :: st, w) Q ↔ (if x = y then cf_wp (T_law xs Ls) (494, [l0, l1, l2, l3], st, w) Q else cf_wp (T_law xs Ls) (404, [l0, l1, l2, l3], st, w) Q) := cf_wi rfl
theorem r_law_404 {xs : Nat → Int32} {Ls : Nat} {l0 l1 l2 l3 : Option cf_AV} {st : List cf_AV} {w : cf_Wd} {Q : cf_Rs → Prop} : cf_wp (T_law xs Ls) (404, [l0, l1, l2, l3], st, w) Q ↔ cf_wp (T_law xs Ls) (405, [l0, l1, l2, l3], .inl 0 :: st, w) Q := cf_w1 rfl
theorem r_law_405 {xs : Nat → Int32} {Ls : Nat} {l0 l1 l2 l3 : Option cf_AV} {x : Int32} {w : cf_Wd} {P : Int32 → cf_Wd → Prop} : cf_wp (T_law xs Ls) (405, [l0, l1, l2, l3], [.inl x], w) (cf_qb P) ↔ ((x = 0 ∨ x = 1) ∧ P x w) := Iff.trans (cf_wr (q := (some (.inl x), w)) rfl) Iff.rfl
theorem r_law_406 {xs : Nat → Int32} {Ls : Nat} {l0 l2 l3 : Option cf_AV} {k : Nat} {st : List cf_AV} {w : cf_Wd} {Q : cf_Rs → Prop} : cf_wp (T_law xs Ls) (406, [l0, some (.inr k), l2, l3], st, w) Q ↔ cf_wp (T_law xs Ls) (407, [l0, some (.inr k), l2, l3], .inr k :: st, w) Q := cf_w1 rfl
theorem r_law_407 {xs : Nat → Int32} {Ls : Nat} {l0 l1 l2 l3 : Option cf_AV} {w : cf_Wd} {Q : cf_Rs → Prop} : cf_wp (T_law xs Ls) (407, [l0, l1, l2, l3], [.inr 0], w) Q ↔ ∃ x w1, F_C_state [.inr 0] w = some (some (.inl x), w1) ∧ cf_wp (T_law xs Ls) (410, [l0, l1, l2, l3], [.inl x], w1) Q := cf_wci (n := 1) (F := F_C_state) (nx := 410) rfl rfl cf_F_i
theorem c_law_407 {xs : Nat → Int32} {Ls : Nat} {l0 l1 l2 l3 : Option cf_AV} {x1 : Int32} {w1 : cf_Wd} {w : cf_Wd} {Q : cf_Rs → Prop} (hs : F_C_state [.inr 0] w = some (some (.inl x1), w1)) : cf_wp (T_law xs Ls) (407, [l0, l1, l2, l3], [.inr 0], w) Q ↔ cf_wp (T_law xs Ls) (410, [l0, l1, l2, l3], [.inl x1], w1) Q := r_law_407.trans (cf_xi hs)
theorem r_law_410 {xs : Nat → Int32} {Ls : Nat} {l0 l1 l3 : Option cf_AV} {k : Nat} {st : List cf_AV} {w : cf_Wd} {Q : cf_Rs → Prop} : cf_wp (T_law xs Ls) (410, [l0, l1, some (.inr k), l3], st, w) Q ↔ cf_wp (T_law xs Ls) (411, [l0, l1, some (.inr k), l3], .inr k :: st, w) Q := cf_w1 rfl
theorem r_law_411 {xs : Nat → Int32} {Ls : Nat} {l0 l1 l2 l3 : Option cf_AV} {t0 : cf_AV} {w : cf_Wd} {Q : cf_Rs → Prop} : cf_wp (T_law xs Ls) (411, [l0, l1, l2, l3], [.inr 15, t0], w) Q ↔ ∃ x w1, F_P_state [.inr 15] w = some (some (.inl x), w1) ∧ cf_wp (T_law xs Ls) (414, [l0, l1, l2, l3], [.inl x, t0], w1) Q := cf_wci (n := 1) (F := F_P_state) (nx := 414) rfl rfl cf_F_i
theorem c_law_411 {xs : Nat → Int32} {Ls : Nat} {l0 l1 l2 l3 : Option cf_AV} {t0 : cf_AV} {x1 : Int32} {w1 : cf_Wd} {w : cf_Wd} {Q : cf_Rs → Prop} (hs : F_P_state [.inr 15] w = some (some (.inl x1), w1)) : cf_wp (T_law xs Ls) (411, [l0, l1, l2, l3], [.inr 15, t0], w) Q ↔ cf_wp (T_law xs Ls) (414, [l0, l1, l2, l3], [.inl x1, t0], w1) Q := r_law_411.trans (cf_xi hs)
theorem r_law_414 {xs : Nat → Int32} {Ls : Nat} {l0 l1 l2 l3 : Option cf_AV} {x y : Int32} {st : List cf_AV} {w : cf_Wd} {Q : cf_Rs → Prop} : cf_wp (T_law xs Ls) (414, [l0, l1, l2, l3], .inl y :: .inl x :: st, w) Q ↔ (if x = y then cf_wp (T_law xs Ls) (494, [l0, l1, l2, l3], st, w) Q else cf_wp (T_law xs Ls) (417, [l0, l1, l2, l3], st, w) Q) := cf_wi rfl
theorem r_law_417 {xs : Nat → Int32} {Ls : Nat} {l0 l1 l2 l3 : Option cf_AV} {st : List cf_AV} {w : cf_Wd} {Q : cf_Rs → Prop} : cf_wp (T_law xs Ls) (417, [l0, l1, l2, l3], st, w) Q ↔ cf_wp (T_law xs Ls) (418, [l0, l1, l2, l3], .inl 0 :: st, w) Q := cf_w1 rfl
theorem r_law_418 {xs : Nat → Int32} {Ls : Nat} {l0 l1 l2 l3 : Option cf_AV} {x : Int32} {w : cf_Wd} {P : Int32 → cf_Wd → Prop} : cf_wp (T_law xs Ls) (418, [l0, l1, l2, l3], [.inl x], w) (cf_qb P) ↔ ((x = 0 ∨ x = 1) ∧ P x w) := Iff.trans (cf_wr (q := (some (.inl x), w)) rfl) Iff.rfl
theorem r_law_419 {xs : Nat → Int32} {Ls : Nat} {l0 l2 l3 : Option cf_AV} {k : Nat} {st : List cf_AV} {w : cf_Wd} {Q : cf_Rs → Prop} : cf_wp (T_law xs Ls) (419, [l0, some (.inr k), l2, l3], st, w) Q ↔ cf_wp (T_law xs Ls) (420, [l0, some (.inr k), l2, l3], .inr k :: st, w) Q := cf_w1 rfl
theorem r_law_420 {xs : Nat → Int32} {Ls : Nat} {l0 l1 l2 l3 : Option cf_AV} {w : cf_Wd} {Q : cf_Rs → Prop} : cf_wp (T_law xs Ls) (420, [l0, l1, l2, l3], [.inr 0], w) Q ↔ ∃ x w1, F_C_suspects [.inr 0] w = some (some (.inl x), w1) ∧ cf_wp (T_law xs Ls) (423, [l0, l1, l2, l3], [.inl x], w1) Q := cf_wci (n := 1) (F := F_C_suspects) (nx := 423) rfl rfl cf_F_i
theorem c_law_420 {xs : Nat → Int32} {Ls : Nat} {l0 l1 l2 l3 : Option cf_AV} {x1 : Int32} {w1 : cf_Wd} {w : cf_Wd} {Q : cf_Rs → Prop} (hs : F_C_suspects [.inr 0] w = some (some (.inl x1), w1)) : cf_wp (T_law xs Ls) (420, [l0, l1, l2, l3], [.inr 0], w) Q ↔ cf_wp (T_law xs Ls) (423, [l0, l1, l2, l3], [.inl x1], w1) Q := r_law_420.trans (cf_xi hs)
theorem r_law_423 {xs : Nat → Int32} {Ls : Nat} {l0 l1 l3 : Option cf_AV} {k : Nat} {st : List cf_AV} {w : cf_Wd} {Q : cf_Rs → Prop} : cf_wp (T_law xs Ls) (423, [l0, l1, some (.inr k), l3], st, w) Q ↔ cf_wp (T_law xs Ls) (424, [l0, l1, some (.inr k), l3], .inr k :: st, w) Q := cf_w1 rfl
theorem r_law_424 {xs : Nat → Int32} {Ls : Nat} {l0 l1 l2 l3 : Option cf_AV} {t0 : cf_AV} {w : cf_Wd} {Q : cf_Rs → Prop} : cf_wp (T_law xs Ls) (424, [l0, l1, l2, l3], [.inr 15, t0], w) Q ↔ ∃ x w1, F_P_suspects [.inr 15] w = some (some (.inl x), w1) ∧ cf_wp (T_law xs Ls) (427, [l0, l1, l2, l3], [.inl x, t0], w1) Q := cf_wci (n := 1) (F := F_P_suspects) (nx := 427) rfl rfl cf_F_i
theorem c_law_424 {xs : Nat → Int32} {Ls : Nat} {l0 l1 l2 l3 : Option cf_AV} {t0 : cf_AV} {x1 : Int32} {w1 : cf_Wd} {w : cf_Wd} {Q : cf_Rs → Prop} (hs : F_P_suspects [.inr 15] w = some (some (.inl x1), w1)) : cf_wp (T_law xs Ls) (424, [l0, l1, l2, l3], [.inr 15, t0], w) Q ↔ cf_wp (T_law xs Ls) (427, [l0, l1, l2, l3], [.inl x1, t0], w1) Q := r_law_424.trans (cf_xi hs)
theorem r_law_427 {xs : Nat → Int32} {Ls : Nat} {l0 l1 l2 l3 : Option cf_AV} {x y : Int32} {st : List cf_AV} {w : cf_Wd} {Q : cf_Rs → Prop} : cf_wp (T_law xs Ls) (427, [l0, l1, l2, l3], .inl y :: .inl x :: st, w) Q ↔ (if x = y then cf_wp (T_law xs Ls) (494, [l0, l1, l2, l3], st, w) Q else cf_wp (T_law xs Ls) (430, [l0, l1, l2, l3], st, w) Q) := cf_wi rfl
theorem r_law_430 {xs : Nat → Int32} {Ls : Nat} {l0 l1 l2 l3 : Option cf_AV} {st : List cf_AV} {w : cf_Wd} {Q : cf_Rs → Prop} : cf_wp (T_law xs Ls) (430, [l0, l1, l2, l3], st, w) Q ↔ cf_wp (T_law xs Ls) (431, [l0, l1, l2, l3], .inl 0 :: st, w) Q := cf_w1 rfl
theorem r_law_431 {xs : Nat → Int32} {Ls : Nat} {l0 l1 l2 l3 : Option cf_AV} {x : Int32} {w : cf_Wd} {P : Int32 → cf_Wd → Prop} : cf_wp (T_law xs Ls) (431, [l0, l1, l2, l3], [.inl x], w) (cf_qb P) ↔ ((x = 0 ∨ x = 1) ∧ P x w) := Iff.trans (cf_wr (q := (some (.inl x), w)) rfl) Iff.rfl
theorem r_law_432 {xs : Nat → Int32} {Ls : Nat} {l0 l2 l3 : Option cf_AV} {k : Nat} {st : List cf_AV} {w : cf_Wd} {Q : cf_Rs → Prop} : cf_wp (T_law xs Ls) (432, [l0, some (.inr k), l2, l3], st, w) Q ↔ cf_wp (T_law xs Ls) (433, [l0, some (.inr k), l2, l3], .inr k :: st, w) Q := cf_w1 rfl
theorem r_law_433 {xs : Nat → Int32} {Ls : Nat} {l1 l2 l3 : Option cf_AV} {k : Nat} {st : List cf_AV} {w : cf_Wd} {Q : cf_Rs → Prop} : cf_wp (T_law xs Ls) (433, [some (.inr k), l1, l2, l3], st, w) Q ↔ cf_wp (T_law xs Ls) (434, [some (.inr k), l1, l2, l3], .inr k :: st, w) Q := cf_w1 rfl
theorem r_law_434 {xs : Nat → Int32} {Ls : Nat} {l0 l1 l2 : Option cf_AV} {x : Int32} {st : List cf_AV} {w : cf_Wd} {Q : cf_Rs → Prop} : cf_wp (T_law xs Ls) (434, [l0, l1, l2, some (.inl x)], st, w) Q ↔ cf_wp (T_law xs Ls) (435, [l0, l1, l2, some (.inl x)], .inl x :: st, w) Q := cf_w1 rfl
theorem r_law_435 {xs : Nat → Int32} {Ls : Nat} {l0 l1 l2 l3 : Option cf_AV} {st : List cf_AV} {w : cf_Wd} {Q : cf_Rs → Prop} : cf_wp (T_law xs Ls) (435, [l0, l1, l2, l3], st, w) Q ↔ cf_wp (T_law xs Ls) (436, [l0, l1, l2, l3], .inl 1 :: st, w) Q := cf_w1 rfl
theorem r_law_436 {xs : Nat → Int32} {Ls : Nat} {l0 l1 l2 l3 : Option cf_AV} {x y : Int32} {st : List cf_AV} {w : cf_Wd} {Q : cf_Rs → Prop} : cf_wp (T_law xs Ls) (436, [l0, l1, l2, l3], .inl y :: .inl x :: st, w) Q ↔ cf_wp (T_law xs Ls) (437, [l0, l1, l2, l3], .inl (x + y) :: st, w) Q := cf_w1 rfl
theorem r_law_437 {xs : Nat → Int32} {Ls : Nat} {l0 l1 l2 l3 : Option cf_AV} {i : Int32} {st : List cf_AV} {w : cf_Wd} {Q : cf_Rs → Prop} : cf_wp (T_law xs Ls) (437, [l0, l1, l2, l3], .inl i :: .inr 26 :: st, w) Q ↔ (cf_in i Ls = true ∧ cf_wp (T_law xs Ls) (438, [l0, l1, l2, l3], .inl (xs i.toNatClampNeg) :: st, w) Q) := cf_wg rfl
theorem r_law_438 {xs : Nat → Int32} {Ls : Nat} {l0 l1 l2 l3 : Option cf_AV} {a1 : Int32} {w : cf_Wd} {Q : cf_Rs → Prop} : cf_wp (T_law xs Ls) (438, [l0, l1, l2, l3], [.inl a1, .inr 0], w) Q ↔ ∃ x w1, F_C_weight [.inr 0, .inl a1] w = some (some (.inl x), w1) ∧ cf_wp (T_law xs Ls) (441, [l0, l1, l2, l3], [.inl x], w1) Q := cf_wci (n := 2) (F := F_C_weight) (nx := 441) rfl rfl cf_F_i
theorem c_law_438 {xs : Nat → Int32} {Ls : Nat} {l0 l1 l2 l3 : Option cf_AV} {a1 : Int32} {x1 : Int32} {w1 : cf_Wd} {w : cf_Wd} {Q : cf_Rs → Prop} (hs : F_C_weight [.inr 0, .inl a1] w = some (some (.inl x1), w1)) : cf_wp (T_law xs Ls) (438, [l0, l1, l2, l3], [.inl a1, .inr 0], w) Q ↔ cf_wp (T_law xs Ls) (441, [l0, l1, l2, l3], [.inl x1], w1) Q := r_law_438.trans (cf_xi hs)
theorem r_law_441 {xs : Nat → Int32} {Ls : Nat} {l0 l1 l3 : Option cf_AV} {k : Nat} {st : List cf_AV} {w : cf_Wd} {Q : cf_Rs → Prop} : cf_wp (T_law xs Ls) (441, [l0, l1, some (.inr k), l3], st, w) Q ↔ cf_wp (T_law xs Ls) (442, [l0, l1, some (.inr k), l3], .inr k :: st, w) Q := cf_w1 rfl
theorem r_law_442 {xs : Nat → Int32} {Ls : Nat} {l1 l2 l3 : Option cf_AV} {k : Nat} {st : List cf_AV} {w : cf_Wd} {Q : cf_Rs → Prop} : cf_wp (T_law xs Ls) (442, [some (.inr k), l1, l2, l3], st, w) Q ↔ cf_wp (T_law xs Ls) (443, [some (.inr k), l1, l2, l3], .inr k :: st, w) Q := cf_w1 rfl
theorem r_law_443 {xs : Nat → Int32} {Ls : Nat} {l0 l1 l2 : Option cf_AV} {x : Int32} {st : List cf_AV} {w : cf_Wd} {Q : cf_Rs → Prop} : cf_wp (T_law xs Ls) (443, [l0, l1, l2, some (.inl x)], st, w) Q ↔ cf_wp (T_law xs Ls) (444, [l0, l1, l2, some (.inl x)], .inl x :: st, w) Q := cf_w1 rfl
theorem r_law_444 {xs : Nat → Int32} {Ls : Nat} {l0 l1 l2 l3 : Option cf_AV} {st : List cf_AV} {w : cf_Wd} {Q : cf_Rs → Prop} : cf_wp (T_law xs Ls) (444, [l0, l1, l2, l3], st, w) Q ↔ cf_wp (T_law xs Ls) (445, [l0, l1, l2, l3], .inl 1 :: st, w) Q := cf_w1 rfl
theorem r_law_445 {xs : Nat → Int32} {Ls : Nat} {l0 l1 l2 l3 : Option cf_AV} {x y : Int32} {st : List cf_AV} {w : cf_Wd} {Q : cf_Rs → Prop} : cf_wp (T_law xs Ls) (445, [l0, l1, l2, l3], .inl y :: .inl x :: st, w) Q ↔ cf_wp (T_law xs Ls) (446, [l0, l1, l2, l3], .inl (x + y) :: st, w) Q := cf_w1 rfl
theorem r_law_446 {xs : Nat → Int32} {Ls : Nat} {l0 l1 l2 l3 : Option cf_AV} {i : Int32} {st : List cf_AV} {w : cf_Wd} {Q : cf_Rs → Prop} : cf_wp (T_law xs Ls) (446, [l0, l1, l2, l3], .inl i :: .inr 26 :: st, w) Q ↔ (cf_in i Ls = true ∧ cf_wp (T_law xs Ls) (447, [l0, l1, l2, l3], .inl (xs i.toNatClampNeg) :: st, w) Q) := cf_wg rfl
theorem r_law_447 {xs : Nat → Int32} {Ls : Nat} {l0 l1 l2 l3 : Option cf_AV} {a1 : Int32} {t0 : cf_AV} {w : cf_Wd} {Q : cf_Rs → Prop} : cf_wp (T_law xs Ls) (447, [l0, l1, l2, l3], [.inl a1, .inr 15, t0], w) Q ↔ ∃ x w1, F_P_weight [.inr 15, .inl a1] w = some (some (.inl x), w1) ∧ cf_wp (T_law xs Ls) (450, [l0, l1, l2, l3], [.inl x, t0], w1) Q := cf_wci (n := 2) (F := F_P_weight) (nx := 450) rfl rfl cf_F_i
theorem c_law_447 {xs : Nat → Int32} {Ls : Nat} {l0 l1 l2 l3 : Option cf_AV} {a1 : Int32} {t0 : cf_AV} {x1 : Int32} {w1 : cf_Wd} {w : cf_Wd} {Q : cf_Rs → Prop} (hs : F_P_weight [.inr 15, .inl a1] w = some (some (.inl x1), w1)) : cf_wp (T_law xs Ls) (447, [l0, l1, l2, l3], [.inl a1, .inr 15, t0], w) Q ↔ cf_wp (T_law xs Ls) (450, [l0, l1, l2, l3], [.inl x1, t0], w1) Q := r_law_447.trans (cf_xi hs)
theorem r_law_450 {xs : Nat → Int32} {Ls : Nat} {l0 l1 l2 l3 : Option cf_AV} {x y : Int32} {st : List cf_AV} {w : cf_Wd} {Q : cf_Rs → Prop} : cf_wp (T_law xs Ls) (450, [l0, l1, l2, l3], .inl y :: .inl x :: st, w) Q ↔ (if x = y then cf_wp (T_law xs Ls) (494, [l0, l1, l2, l3], st, w) Q else cf_wp (T_law xs Ls) (453, [l0, l1, l2, l3], st, w) Q) := cf_wi rfl
theorem r_law_453 {xs : Nat → Int32} {Ls : Nat} {l0 l1 l2 l3 : Option cf_AV} {st : List cf_AV} {w : cf_Wd} {Q : cf_Rs → Prop} : cf_wp (T_law xs Ls) (453, [l0, l1, l2, l3], st, w) Q ↔ cf_wp (T_law xs Ls) (454, [l0, l1, l2, l3], .inl 0 :: st, w) Q := cf_w1 rfl
theorem r_law_454 {xs : Nat → Int32} {Ls : Nat} {l0 l1 l2 l3 : Option cf_AV} {x : Int32} {w : cf_Wd} {P : Int32 → cf_Wd → Prop} : cf_wp (T_law xs Ls) (454, [l0, l1, l2, l3], [.inl x], w) (cf_qb P) ↔ ((x = 0 ∨ x = 1) ∧ P x w) := Iff.trans (cf_wr (q := (some (.inl x), w)) rfl) Iff.rfl
theorem r_law_455 {xs : Nat → Int32} {Ls : Nat} {l0 l2 l3 : Option cf_AV} {k : Nat} {st : List cf_AV} {w : cf_Wd} {Q : cf_Rs → Prop} : cf_wp (T_law xs Ls) (455, [l0, some (.inr k), l2, l3], st, w) Q ↔ cf_wp (T_law xs Ls) (456, [l0, some (.inr k), l2, l3], .inr k :: st, w) Q := cf_w1 rfl
theorem r_law_456 {xs : Nat → Int32} {Ls : Nat} {l0 l1 l2 l3 : Option cf_AV} {w : cf_Wd} {Q : cf_Rs → Prop} : cf_wp (T_law xs Ls) (456, [l0, l1, l2, l3], [.inr 0], w) Q ↔ ∃ x w1, F_C_culprit [.inr 0] w = some (some (.inl x), w1) ∧ cf_wp (T_law xs Ls) (459, [l0, l1, l2, l3], [.inl x], w1) Q := cf_wci (n := 1) (F := F_C_culprit) (nx := 459) rfl rfl cf_F_i
theorem c_law_456 {xs : Nat → Int32} {Ls : Nat} {l0 l1 l2 l3 : Option cf_AV} {x1 : Int32} {w1 : cf_Wd} {w : cf_Wd} {Q : cf_Rs → Prop} (hs : F_C_culprit [.inr 0] w = some (some (.inl x1), w1)) : cf_wp (T_law xs Ls) (456, [l0, l1, l2, l3], [.inr 0], w) Q ↔ cf_wp (T_law xs Ls) (459, [l0, l1, l2, l3], [.inl x1], w1) Q := r_law_456.trans (cf_xi hs)
theorem r_law_459 {xs : Nat → Int32} {Ls : Nat} {l0 l1 l3 : Option cf_AV} {k : Nat} {st : List cf_AV} {w : cf_Wd} {Q : cf_Rs → Prop} : cf_wp (T_law xs Ls) (459, [l0, l1, some (.inr k), l3], st, w) Q ↔ cf_wp (T_law xs Ls) (460, [l0, l1, some (.inr k), l3], .inr k :: st, w) Q := cf_w1 rfl
theorem r_law_460 {xs : Nat → Int32} {Ls : Nat} {l0 l1 l2 l3 : Option cf_AV} {t0 : cf_AV} {w : cf_Wd} {Q : cf_Rs → Prop} : cf_wp (T_law xs Ls) (460, [l0, l1, l2, l3], [.inr 15, t0], w) Q ↔ ∃ x w1, F_P_culprit [.inr 15] w = some (some (.inl x), w1) ∧ cf_wp (T_law xs Ls) (463, [l0, l1, l2, l3], [.inl x, t0], w1) Q := cf_wci (n := 1) (F := F_P_culprit) (nx := 463) rfl rfl cf_F_i
theorem c_law_460 {xs : Nat → Int32} {Ls : Nat} {l0 l1 l2 l3 : Option cf_AV} {t0 : cf_AV} {x1 : Int32} {w1 : cf_Wd} {w : cf_Wd} {Q : cf_Rs → Prop} (hs : F_P_culprit [.inr 15] w = some (some (.inl x1), w1)) : cf_wp (T_law xs Ls) (460, [l0, l1, l2, l3], [.inr 15, t0], w) Q ↔ cf_wp (T_law xs Ls) (463, [l0, l1, l2, l3], [.inl x1, t0], w1) Q := r_law_460.trans (cf_xi hs)
theorem r_law_463 {xs : Nat → Int32} {Ls : Nat} {l0 l1 l2 l3 : Option cf_AV} {x y : Int32} {st : List cf_AV} {w : cf_Wd} {Q : cf_Rs → Prop} : cf_wp (T_law xs Ls) (463, [l0, l1, l2, l3], .inl y :: .inl x :: st, w) Q ↔ (if x = y then cf_wp (T_law xs Ls) (494, [l0, l1, l2, l3], st, w) Q else cf_wp (T_law xs Ls) (466, [l0, l1, l2, l3], st, w) Q) := cf_wi rfl
theorem r_law_466 {xs : Nat → Int32} {Ls : Nat} {l0 l1 l2 l3 : Option cf_AV} {st : List cf_AV} {w : cf_Wd} {Q : cf_Rs → Prop} : cf_wp (T_law xs Ls) (466, [l0, l1, l2, l3], st, w) Q ↔ cf_wp (T_law xs Ls) (467, [l0, l1, l2, l3], .inl 0 :: st, w) Q := cf_w1 rfl
theorem r_law_467 {xs : Nat → Int32} {Ls : Nat} {l0 l1 l2 l3 : Option cf_AV} {x : Int32} {w : cf_Wd} {P : Int32 → cf_Wd → Prop} : cf_wp (T_law xs Ls) (467, [l0, l1, l2, l3], [.inl x], w) (cf_qb P) ↔ ((x = 0 ∨ x = 1) ∧ P x w) := Iff.trans (cf_wr (q := (some (.inl x), w)) rfl) Iff.rfl
theorem r_law_468 {xs : Nat → Int32} {Ls : Nat} {l0 l2 l3 : Option cf_AV} {k : Nat} {st : List cf_AV} {w : cf_Wd} {Q : cf_Rs → Prop} : cf_wp (T_law xs Ls) (468, [l0, some (.inr k), l2, l3], st, w) Q ↔ cf_wp (T_law xs Ls) (469, [l0, some (.inr k), l2, l3], .inr k :: st, w) Q := cf_w1 rfl
theorem r_law_469 {xs : Nat → Int32} {Ls : Nat} {l0 l1 l2 l3 : Option cf_AV} {w : cf_Wd} {Q : cf_Rs → Prop} : cf_wp (T_law xs Ls) (469, [l0, l1, l2, l3], [.inr 0], w) Q ↔ ∃ x w1, F_C_reduced [.inr 0] w = some (some (.inl x), w1) ∧ cf_wp (T_law xs Ls) (472, [l0, l1, l2, l3], [.inl x], w1) Q := cf_wci (n := 1) (F := F_C_reduced) (nx := 472) rfl rfl cf_F_i
theorem c_law_469 {xs : Nat → Int32} {Ls : Nat} {l0 l1 l2 l3 : Option cf_AV} {x1 : Int32} {w1 : cf_Wd} {w : cf_Wd} {Q : cf_Rs → Prop} (hs : F_C_reduced [.inr 0] w = some (some (.inl x1), w1)) : cf_wp (T_law xs Ls) (469, [l0, l1, l2, l3], [.inr 0], w) Q ↔ cf_wp (T_law xs Ls) (472, [l0, l1, l2, l3], [.inl x1], w1) Q := r_law_469.trans (cf_xi hs)
theorem r_law_472 {xs : Nat → Int32} {Ls : Nat} {l0 l1 l3 : Option cf_AV} {k : Nat} {st : List cf_AV} {w : cf_Wd} {Q : cf_Rs → Prop} : cf_wp (T_law xs Ls) (472, [l0, l1, some (.inr k), l3], st, w) Q ↔ cf_wp (T_law xs Ls) (473, [l0, l1, some (.inr k), l3], .inr k :: st, w) Q := cf_w1 rfl
theorem r_law_473 {xs : Nat → Int32} {Ls : Nat} {l0 l1 l2 l3 : Option cf_AV} {t0 : cf_AV} {w : cf_Wd} {Q : cf_Rs → Prop} : cf_wp (T_law xs Ls) (473, [l0, l1, l2, l3], [.inr 15, t0], w) Q ↔ ∃ x w1, F_P_reduced [.inr 15] w = some (some (.inl x), w1) ∧ cf_wp (T_law xs Ls) (476, [l0, l1, l2, l3], [.inl x, t0], w1) Q := cf_wci (n := 1) (F := F_P_reduced) (nx := 476) rfl rfl cf_F_i
theorem c_law_473 {xs : Nat → Int32} {Ls : Nat} {l0 l1 l2 l3 : Option cf_AV} {t0 : cf_AV} {x1 : Int32} {w1 : cf_Wd} {w : cf_Wd} {Q : cf_Rs → Prop} (hs : F_P_reduced [.inr 15] w = some (some (.inl x1), w1)) : cf_wp (T_law xs Ls) (473, [l0, l1, l2, l3], [.inr 15, t0], w) Q ↔ cf_wp (T_law xs Ls) (476, [l0, l1, l2, l3], [.inl x1, t0], w1) Q := r_law_473.trans (cf_xi hs)
theorem r_law_476 {xs : Nat → Int32} {Ls : Nat} {l0 l1 l2 l3 : Option cf_AV} {x y : Int32} {st : List cf_AV} {w : cf_Wd} {Q : cf_Rs → Prop} : cf_wp (T_law xs Ls) (476, [l0, l1, l2, l3], .inl y :: .inl x :: st, w) Q ↔ (if x = y then cf_wp (T_law xs Ls) (494, [l0, l1, l2, l3], st, w) Q else cf_wp (T_law xs Ls) (479, [l0, l1, l2, l3], st, w) Q) := cf_wi rfl
theorem r_law_479 {xs : Nat → Int32} {Ls : Nat} {l0 l1 l2 l3 : Option cf_AV} {st : List cf_AV} {w : cf_Wd} {Q : cf_Rs → Prop} : cf_wp (T_law xs Ls) (479, [l0, l1, l2, l3], st, w) Q ↔ cf_wp (T_law xs Ls) (480, [l0, l1, l2, l3], .inl 0 :: st, w) Q := cf_w1 rfl
theorem r_law_480 {xs : Nat → Int32} {Ls : Nat} {l0 l1 l2 l3 : Option cf_AV} {x : Int32} {w : cf_Wd} {P : Int32 → cf_Wd → Prop} : cf_wp (T_law xs Ls) (480, [l0, l1, l2, l3], [.inl x], w) (cf_qb P) ↔ ((x = 0 ∨ x = 1) ∧ P x w) := Iff.trans (cf_wr (q := (some (.inl x), w)) rfl) Iff.rfl
theorem r_law_481 {xs : Nat → Int32} {Ls : Nat} {l0 l2 l3 : Option cf_AV} {k : Nat} {st : List cf_AV} {w : cf_Wd} {Q : cf_Rs → Prop} : cf_wp (T_law xs Ls) (481, [l0, some (.inr k), l2, l3], st, w) Q ↔ cf_wp (T_law xs Ls) (482, [l0, some (.inr k), l2, l3], .inr k :: st, w) Q := cf_w1 rfl
theorem r_law_482 {xs : Nat → Int32} {Ls : Nat} {l0 l1 l2 l3 : Option cf_AV} {w : cf_Wd} {Q : cf_Rs → Prop} : cf_wp (T_law xs Ls) (482, [l0, l1, l2, l3], [.inr 0], w) Q ↔ ∃ x w1, F_C_started [.inr 0] w = some (some (.inl x), w1) ∧ cf_wp (T_law xs Ls) (485, [l0, l1, l2, l3], [.inl x], w1) Q := cf_wci (n := 1) (F := F_C_started) (nx := 485) rfl rfl cf_F_i
theorem c_law_482 {xs : Nat → Int32} {Ls : Nat} {l0 l1 l2 l3 : Option cf_AV} {x1 : Int32} {w1 : cf_Wd} {w : cf_Wd} {Q : cf_Rs → Prop} (hs : F_C_started [.inr 0] w = some (some (.inl x1), w1)) : cf_wp (T_law xs Ls) (482, [l0, l1, l2, l3], [.inr 0], w) Q ↔ cf_wp (T_law xs Ls) (485, [l0, l1, l2, l3], [.inl x1], w1) Q := r_law_482.trans (cf_xi hs)
theorem r_law_485 {xs : Nat → Int32} {Ls : Nat} {l0 l1 l3 : Option cf_AV} {k : Nat} {st : List cf_AV} {w : cf_Wd} {Q : cf_Rs → Prop} : cf_wp (T_law xs Ls) (485, [l0, l1, some (.inr k), l3], st, w) Q ↔ cf_wp (T_law xs Ls) (486, [l0, l1, some (.inr k), l3], .inr k :: st, w) Q := cf_w1 rfl
theorem r_law_486 {xs : Nat → Int32} {Ls : Nat} {l0 l1 l2 l3 : Option cf_AV} {t0 : cf_AV} {w : cf_Wd} {Q : cf_Rs → Prop} : cf_wp (T_law xs Ls) (486, [l0, l1, l2, l3], [.inr 15, t0], w) Q ↔ ∃ x w1, F_P_started [.inr 15] w = some (some (.inl x), w1) ∧ cf_wp (T_law xs Ls) (489, [l0, l1, l2, l3], [.inl x, t0], w1) Q := cf_wci (n := 1) (F := F_P_started) (nx := 489) rfl rfl cf_F_i
theorem c_law_486 {xs : Nat → Int32} {Ls : Nat} {l0 l1 l2 l3 : Option cf_AV} {t0 : cf_AV} {x1 : Int32} {w1 : cf_Wd} {w : cf_Wd} {Q : cf_Rs → Prop} (hs : F_P_started [.inr 15] w = some (some (.inl x1), w1)) : cf_wp (T_law xs Ls) (486, [l0, l1, l2, l3], [.inr 15, t0], w) Q ↔ cf_wp (T_law xs Ls) (489, [l0, l1, l2, l3], [.inl x1, t0], w1) Q := r_law_486.trans (cf_xi hs)
theorem r_law_489 {xs : Nat → Int32} {Ls : Nat} {l0 l1 l2 l3 : Option cf_AV} {x y : Int32} {st : List cf_AV} {w : cf_Wd} {Q : cf_Rs → Prop} : cf_wp (T_law xs Ls) (489, [l0, l1, l2, l3], .inl y :: .inl x :: st, w) Q ↔ (if x = y then cf_wp (T_law xs Ls) (494, [l0, l1, l2, l3], st, w) Q else cf_wp (T_law xs Ls) (492, [l0, l1, l2, l3], st, w) Q) := cf_wi rfl
theorem r_law_492 {xs : Nat → Int32} {Ls : Nat} {l0 l1 l2 l3 : Option cf_AV} {st : List cf_AV} {w : cf_Wd} {Q : cf_Rs → Prop} : cf_wp (T_law xs Ls) (492, [l0, l1, l2, l3], st, w) Q ↔ cf_wp (T_law xs Ls) (493, [l0, l1, l2, l3], .inl 0 :: st, w) Q := cf_w1 rfl
theorem r_law_493 {xs : Nat → Int32} {Ls : Nat} {l0 l1 l2 l3 : Option cf_AV} {x : Int32} {w : cf_Wd} {P : Int32 → cf_Wd → Prop} : cf_wp (T_law xs Ls) (493, [l0, l1, l2, l3], [.inl x], w) (cf_qb P) ↔ ((x = 0 ∨ x = 1) ∧ P x w) := Iff.trans (cf_wr (q := (some (.inl x), w)) rfl) Iff.rfl
theorem r_law_494 {xs : Nat → Int32} {Ls : Nat} {l0 l1 l2 : Option cf_AV} {x : Int32} {st : List cf_AV} {w : cf_Wd} {Q : cf_Rs → Prop} : cf_wp (T_law xs Ls) (494, [l0, l1, l2, some (.inl x)], st, w) Q ↔ cf_wp (T_law xs Ls) (497, [l0, l1, l2, some (.inl (x + 4))], st, w) Q := cf_w1 rfl
theorem r_law_497 {xs : Nat → Int32} {Ls : Nat} {l0 l1 l2 l3 : Option cf_AV} {st : List cf_AV} {w : cf_Wd} {Q : cf_Rs → Prop} : cf_wp (T_law xs Ls) (497, [l0, l1, l2, l3], st, w) Q ↔ cf_wp (T_law xs Ls) (18, [l0, l1, l2, l3], st, w) Q := cf_w1 rfl
theorem r_law_500 {xs : Nat → Int32} {Ls : Nat} {l0 l1 l2 l3 : Option cf_AV} {st : List cf_AV} {w : cf_Wd} {Q : cf_Rs → Prop} : cf_wp (T_law xs Ls) (500, [l0, l1, l2, l3], st, w) Q ↔ cf_wp (T_law xs Ls) (501, [l0, l1, l2, l3], .inl 1 :: st, w) Q := cf_w1 rfl
theorem r_law_501 {xs : Nat → Int32} {Ls : Nat} {l0 l1 l2 l3 : Option cf_AV} {x : Int32} {w : cf_Wd} {P : Int32 → cf_Wd → Prop} : cf_wp (T_law xs Ls) (501, [l0, l1, l2, l3], [.inl x], w) (cf_qb P) ↔ ((x = 0 ∨ x = 1) ∧ P x w) := Iff.trans (cf_wr (q := (some (.inl x), w)) rfl) Iff.rfl
