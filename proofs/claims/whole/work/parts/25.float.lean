section GF
variable {p : Program} {l : Launch} {e : Env} {R : Room} {s : State} {m : MethodId} {args : Array Value} {below : List Frame} {meth : Method} {c : Code} {cc : ByteArray} {own : String} {E : gE} {A : Nat → Prop} {nL cells slots : Nat} {Q : State → Prop} {w : va_W} {pc : Nat} {lv : List (Nat × Value)} {st rest : List Value}
theorem x_i2f (C : Cx p s m args c cc nL own E A) {x : Int32} {v : UInt32} (hd : decode cc pc = .ok (.i2f, 1)) (hv : FP.i2f x = v) (k : Wd p l e R s m args below meth c E A nL cells slots Q w (pc + 1) lv (.float v :: st)) : Wd p l e R s m args below meth c E A nL cells slots Q w pc lv (.int x :: st) := fun H locs ls hP hD hS hl => lv_i2f C.1 C.2.1 hd (by rw [hv]; exact k H locs ls hP hD hS hl)
theorem x_fdiv (C : Cx p s m args c cc nL own E A) {x y v : UInt32} (hd : decode cc pc = .ok (.fdiv, 1)) (hv : FP.fdiv x y = v) (hn : v &&& 0x7fffffff ≤ 0x7f800000) (k : Wd p l e R s m args below meth c E A nL cells slots Q w (pc + 1) lv (.float v :: st)) : Wd p l e R s m args below meth c E A nL cells slots Q w pc lv (.float y :: .float x :: st) := fun H locs ls hP hD hS hl => lv_fdiv C.1 C.2.1 hd (by rw [hv]; exact hn) (by rw [hv]; exact k H locs ls hP hD hS hl)
theorem x_fmul (C : Cx p s m args c cc nL own E A) {x y v : UInt32} (hd : decode cc pc = .ok (.fmul, 1)) (hv : FP.fmul x y = v) (hn : v &&& 0x7fffffff ≤ 0x7f800000) (k : Wd p l e R s m args below meth c E A nL cells slots Q w (pc + 1) lv (.float v :: st)) : Wd p l e R s m args below meth c E A nL cells slots Q w pc lv (.float y :: .float x :: st) := fun H locs ls hP hD hS hl => lv_fmul C.1 C.2.1 hd (by rw [hv]; exact hn) (by rw [hv]; exact k H locs ls hP hD hS hl)
theorem x_fcmp (C : Cx p s m args c cc nL own E A) {x y : UInt32} {o : CmpOp} {v : Int32} (hd : decode cc pc = .ok (.fcmp o, 1)) (hv : Op.cmpValue (FP.fcmp x y) o = v) (k : Wd p l e R s m args below meth c E A nL cells slots Q w (pc + 1) lv (.int v :: st)) : Wd p l e R s m args below meth c E A nL cells slots Q w pc lv (.float y :: .float x :: st) := fun H locs ls hP hD hS hl => lv_fcmp C.1 C.2.1 hd (by rw [hv]; exact k H locs ls hP hD hS hl)
theorem x_f2i (C : Cx p s m args c cc nL own E A) {x : UInt32} {v : Int32} (hd : decode cc pc = .ok (.f2i, 1)) (hv : FP.f2i x = v) (k : Wd p l e R s m args below meth c E A nL cells slots Q w (pc + 1) lv (.int v :: st)) : Wd p l e R s m args below meth c E A nL cells slots Q w pc lv (.float x :: st) := fun H locs ls hP hD hS hl => lv_f2i C.1 C.2.1 hd (by rw [hv]; exact k H locs ls hP hD hS hl)
theorem x_fconst0 (C : Cx p s m args c cc nL own E A) {v : UInt32} (hd : decode cc pc = .ok (.fconst 0, 1)) (hv : FP.fconst0 = v) (k : Wd p l e R s m args below meth c E A nL cells slots Q w (pc + 1) lv (.float v :: st)) : Wd p l e R s m args below meth c E A nL cells slots Q w pc lv st := fun H locs ls hP hD hS hl => lv_fconst0 C.1 C.2.1 hd (by rw [hv]; exact k H locs ls hP hD hS hl)
theorem x_fconst1 (C : Cx p s m args c cc nL own E A) {v : UInt32} (hd : decode cc pc = .ok (.fconst 1, 1)) (hv : FP.fconst1 = v) (k : Wd p l e R s m args below meth c E A nL cells slots Q w (pc + 1) lv (.float v :: st)) : Wd p l e R s m args below meth c E A nL cells slots Q w pc lv st := fun H locs ls hP hD hS hl => lv_fconst1 C.1 C.2.1 hd (by rw [hv]; exact k H locs ls hP hD hS hl)
theorem x_fconst2 (C : Cx p s m args c cc nL own E A) {v : UInt32} (hd : decode cc pc = .ok (.fconst 2, 1)) (hv : FP.fconst2 = v) (k : Wd p l e R s m args below meth c E A nL cells slots Q w (pc + 1) lv (.float v :: st)) : Wd p l e R s m args below meth c E A nL cells slots Q w pc lv st := fun H locs ls hP hD hS hl => lv_fconst2 C.1 C.2.1 hd (by rw [hv]; exact k H locs ls hP hD hS hl)
theorem x_raw (C : Cx p s m args c cc nL own E A) {index : Nat} (hlink : Cond.methodLink own index ⟨RJxf58ca, "floatToRawIntBits", "(F)I"⟩ ∈ lw_g) {x : UInt32} (hf : 1 ≤ R.frames) (hlo : (st.map fun v => v.category).sum + 15 ≤ R.locals) (hd : decode cc pc = .ok (.invokestatic index, 3)) (k : Wd p l e R s m args below meth c E A nL cells slots Q w (pc + 3) lv (.int x.toInt32 :: st)) : Wd p l e R s m args below meth c E A nL cells slots Q w pc lv (.float x :: st) := fun H locs ls hP hD hS hl => vn_f2i C.1 C.2.1 (C.2.2.1.trans hl.1.symm) C.2.2.2.1 (C.t hlink) (C.t kw_nat_java_lang_Float_floatToRawIntBits) (C.t kw_st_java_lang_Float_floatToRawIntBits) (C.t kw_ini_Jxf58ca) hf hlo hd (k H locs ls hP hD hS hl)
end GF
theorem ga_isNaN : gArity yJxf58ca_isNaN_12338 1 := ⟨by decide +kernel, by decide +kernel, by decide +kernel⟩
theorem ga_floatToIntBits : gArity yJxf58ca_floatToIntBits_5c35a 1 := ⟨by decide +kernel, by decide +kernel, by decide +kernel⟩
/-- the bits of the quotient of two small numbers -/
def shQ (m n : Nat) : UInt32 := FP.fdiv (FP.i2f (nI m)) (FP.i2f (nI n))
def shB (m n : Nat) : Int32 := if n = 0 then 0 else (shQ m n).toInt32
theorem shQ_ok : ∀ (n : Fin 8) (m : Fin 9), shQ m.val (n.val + 1) &&& 0x7fffffff ≤ 0x7f800000 ∧ Op.cmpValue (FP.fcmp (shQ m.val (n.val + 1)) (shQ m.val (n.val + 1))) .l = 0 := by decide +kernel
set_option maxHeartbeats 4000000 in
set_option maxRecDepth 100000 in
theorem c_X5_shareBits (l : Launch) (E : gE) (mm : Nat) (n : Nat) (h1 : mm ≤ n) (h8 : n ≤ 8) : CtI l E yX5_shareBits prog_1_method_41_code 5 (some .int) 0 0 0 0 [.int (nI mm), .int (nI n)] [] (fun r (_ : Unit) => r = (shB mm n)) (fun _ => []) := by
  refine CtI.start (by decide) (Nat.le_of_ble_eq_true rfl) ?_
  intro p_ e_ s_ m_ below_ meth_ c_ A_ C hr hlocks hnm
  refine Wd.cast (lv1 := [(0, .int (nI mm)), (1, .int (nI n))]) rfl rfl rfl ?_
  rcases (show n = 0 ∨ n = 1 ∨ n = 2 ∨ n = 3 ∨ n = 4 ∨ n = 5 ∨ n = 6 ∨ n = 7 ∨ n = 8 by omega) with rfl | rfl | rfl | rfl | rfl | rfl | rfl | rfl | rfl
  · obtain rfl : mm = 0 := by omega
    · refine Wd.cast (w1 := []) (lv1 := [(0, .int 0), (1, .int 0)]) rfl rfl rfl ?_
      refine x_iload_n C dX5_shareBits_0 0 rfl ?_
      refine x_if_le (tgt := 8) C dX5_shareBits_1 (by decide) (fun c_1 => ?_) (fun c_1 => absurd c_1 (by decide))
      refine x_iconst (v := 0) C dX5_shareBits_8 (by decide) ?_
      exact x_iret C hr hlocks rfl () (by decide +kernel) (gEq.rf _) dX5_shareBits_9
  · rcases (show mm = 0 ∨ mm = 1 by omega) with rfl | rfl
    · refine Wd.cast (w1 := []) (lv1 := [(0, .int 0), (1, .int 1)]) rfl rfl rfl ?_
      refine x_iload_n C dX5_shareBits_0 0 rfl ?_
      refine x_if_le (tgt := 8) C dX5_shareBits_1 (by decide) (fun c_1 => ?_) (fun c_1 => absurd c_1 (by decide))
      refine x_iconst (v := 0) C dX5_shareBits_8 (by decide) ?_
      exact x_iret C hr hlocks rfl () (by decide +kernel) (gEq.rf _) dX5_shareBits_9
    · refine Wd.cast (w1 := []) (lv1 := [(0, .int 1), (1, .int 1)]) rfl rfl rfl ?_
      refine x_iload_n C dX5_shareBits_0 0 rfl ?_
      refine x_if_le (tgt := 8) C dX5_shareBits_1 (by decide) (fun c_1 => absurd c_1 (by decide)) (fun c_1 => ?_)
      refine x_iload_n C dX5_shareBits_4 1 rfl ?_
      refine x_if_gt (tgt := 10) C dX5_shareBits_5 (by decide) (fun c_5 => ?_) (fun c_5 => absurd c_5 (by decide))
      refine x_iload_n C dX5_shareBits_10 0 rfl ?_
      refine x_i2f (v := 1065353216) C dX5_shareBits_11 (by decide +kernel) ?_
      refine x_iload_n C dX5_shareBits_12 1 rfl ?_
      refine x_i2f (v := 1065353216) C dX5_shareBits_13 (by decide +kernel) ?_
      refine x_fdiv (v := 1065353216) C dX5_shareBits_14 (by decide +kernel) (by decide +kernel) ?_
      refine x_fstore_n (lv1 := [(2, .float 1065353216), (0, .int 1), (1, .int 1)]) C dX5_shareBits_15 (by decide) rfl ?_
      refine x_bipush (v := 127) C dX5_shareBits_16 (by decide) ?_
      refine x_istore_n (lv1 := [(3, .int 127), (2, .float 1065353216), (0, .int 1), (1, .int 1)]) C dX5_shareBits_18 (by decide) rfl ?_
      refine x_fload_n C dX5_shareBits_19 1 rfl ?_
      refine x_fconst1 (v := 1065353216) C dX5_shareBits_20 (by decide +kernel) ?_
      refine x_fcmp (v := 0) C dX5_shareBits_21 (by decide +kernel) ?_
      refine x_if_ge (tgt := 39) C dX5_shareBits_22 (by decide) (fun c_22 => ?_) (fun c_22 => absurd c_22 (by decide))
      refine x_fload_n C dX5_shareBits_39 1 rfl ?_
      refine x_ldcf (v := 1258291200) C kw_con_X5_203 dX5_shareBits_40 ?_
      refine x_fmul (v := 1258291200) C dX5_shareBits_42 (by decide +kernel) (by decide +kernel) ?_
      refine x_f2i (v := 8388608) C dX5_shareBits_43 (by decide +kernel) ?_
      refine x_ldc (v := 8388608) C kw_con_X5_204 dX5_shareBits_44 ?_
      refine x_isub C dX5_shareBits_46 ?_
      refine Wd.cast (w1 := []) (lv1 := [(3, .int 127), (2, .float 1065353216), (0, .int 1), (1, .int 1)]) (st1 := [.int 0]) rfl rfl rfl ?_
      refine x_istore (lv1 := [(4, .int 0), (3, .int 127), (2, .float 1065353216), (0, .int 1), (1, .int 1)]) C dX5_shareBits_47 (by decide) rfl ?_
      refine x_iload_n C dX5_shareBits_49 1 rfl ?_
      refine x_bipush (v := 23) C dX5_shareBits_50 (by decide) ?_
      refine x_ishl C dX5_shareBits_52 ?_
      refine x_iload C dX5_shareBits_53 0 rfl ?_
      refine x_ior C dX5_shareBits_55 ?_
      exact x_iret C hr hlocks rfl () (by decide +kernel) (gEq.rf _) dX5_shareBits_56
  · rcases (show mm = 0 ∨ mm = 1 ∨ mm = 2 by omega) with rfl | rfl | rfl
    · refine Wd.cast (w1 := []) (lv1 := [(0, .int 0), (1, .int 2)]) rfl rfl rfl ?_
      refine x_iload_n C dX5_shareBits_0 0 rfl ?_
      refine x_if_le (tgt := 8) C dX5_shareBits_1 (by decide) (fun c_1 => ?_) (fun c_1 => absurd c_1 (by decide))
      refine x_iconst (v := 0) C dX5_shareBits_8 (by decide) ?_
      exact x_iret C hr hlocks rfl () (by decide +kernel) (gEq.rf _) dX5_shareBits_9
    · refine Wd.cast (w1 := []) (lv1 := [(0, .int 1), (1, .int 2)]) rfl rfl rfl ?_
      refine x_iload_n C dX5_shareBits_0 0 rfl ?_
      refine x_if_le (tgt := 8) C dX5_shareBits_1 (by decide) (fun c_1 => absurd c_1 (by decide)) (fun c_1 => ?_)
      refine x_iload_n C dX5_shareBits_4 1 rfl ?_
      refine x_if_gt (tgt := 10) C dX5_shareBits_5 (by decide) (fun c_5 => ?_) (fun c_5 => absurd c_5 (by decide))
      refine x_iload_n C dX5_shareBits_10 0 rfl ?_
      refine x_i2f (v := 1065353216) C dX5_shareBits_11 (by decide +kernel) ?_
      refine x_iload_n C dX5_shareBits_12 1 rfl ?_
      refine x_i2f (v := 1073741824) C dX5_shareBits_13 (by decide +kernel) ?_
      refine x_fdiv (v := 1056964608) C dX5_shareBits_14 (by decide +kernel) (by decide +kernel) ?_
      refine x_fstore_n (lv1 := [(2, .float 1056964608), (0, .int 1), (1, .int 2)]) C dX5_shareBits_15 (by decide) rfl ?_
      refine x_bipush (v := 127) C dX5_shareBits_16 (by decide) ?_
      refine x_istore_n (lv1 := [(3, .int 127), (2, .float 1056964608), (0, .int 1), (1, .int 2)]) C dX5_shareBits_18 (by decide) rfl ?_
      refine x_fload_n C dX5_shareBits_19 1 rfl ?_
      refine x_fconst1 (v := 1065353216) C dX5_shareBits_20 (by decide +kernel) ?_
      refine x_fcmp (v := (-1)) C dX5_shareBits_21 (by decide +kernel) ?_
      refine x_if_ge (tgt := 39) C dX5_shareBits_22 (by decide) (fun c_22 => absurd c_22 (by decide)) (fun c_22 => ?_)
      refine x_iload_n C dX5_shareBits_25 0 rfl ?_
      refine x_if_le (tgt := 39) C dX5_shareBits_26 (by decide) (fun c_26 => absurd c_26 (by decide)) (fun c_26 => ?_)
      refine x_fload_n C dX5_shareBits_29 1 rfl ?_
      refine x_fconst2 (v := 1073741824) C dX5_shareBits_30 (by decide +kernel) ?_
      refine x_fmul (v := 1065353216) C dX5_shareBits_31 (by decide +kernel) (by decide +kernel) ?_
      refine x_fstore_n (lv1 := [(2, .float 1065353216), (3, .int 127), (0, .int 1), (1, .int 2)]) C dX5_shareBits_32 (by decide) rfl ?_
      refine x_iinc (j := 1) (v := 126) (lv1 := [(3, .int 126), (2, .float 1065353216), (0, .int 1), (1, .int 2)]) C dX5_shareBits_33 rfl (by decide) (by decide) rfl ?_
      refine x_goto (tgt := 19) C dX5_shareBits_36 (by decide) ?_
      refine x_fload_n C dX5_shareBits_19 1 rfl ?_
      refine x_fconst1 (v := 1065353216) C dX5_shareBits_20 (by decide +kernel) ?_
      refine x_fcmp (v := 0) C dX5_shareBits_21 (by decide +kernel) ?_
      refine x_if_ge (tgt := 39) C dX5_shareBits_22 (by decide) (fun c_22_2 => ?_) (fun c_22_2 => absurd c_22_2 (by decide))
      refine x_fload_n C dX5_shareBits_39 1 rfl ?_
      refine x_ldcf (v := 1258291200) C kw_con_X5_203 dX5_shareBits_40 ?_
      refine x_fmul (v := 1258291200) C dX5_shareBits_42 (by decide +kernel) (by decide +kernel) ?_
      refine x_f2i (v := 8388608) C dX5_shareBits_43 (by decide +kernel) ?_
      refine x_ldc (v := 8388608) C kw_con_X5_204 dX5_shareBits_44 ?_
      refine x_isub C dX5_shareBits_46 ?_
      refine Wd.cast (w1 := []) (lv1 := [(3, .int 126), (2, .float 1065353216), (0, .int 1), (1, .int 2)]) (st1 := [.int 0]) rfl rfl rfl ?_
      refine x_istore (lv1 := [(4, .int 0), (3, .int 126), (2, .float 1065353216), (0, .int 1), (1, .int 2)]) C dX5_shareBits_47 (by decide) rfl ?_
      refine x_iload_n C dX5_shareBits_49 1 rfl ?_
      refine x_bipush (v := 23) C dX5_shareBits_50 (by decide) ?_
      refine x_ishl C dX5_shareBits_52 ?_
      refine x_iload C dX5_shareBits_53 0 rfl ?_
      refine x_ior C dX5_shareBits_55 ?_
      exact x_iret C hr hlocks rfl () (by decide +kernel) (gEq.rf _) dX5_shareBits_56
    · refine Wd.cast (w1 := []) (lv1 := [(0, .int 2), (1, .int 2)]) rfl rfl rfl ?_
      refine x_iload_n C dX5_shareBits_0 0 rfl ?_
      refine x_if_le (tgt := 8) C dX5_shareBits_1 (by decide) (fun c_1 => absurd c_1 (by decide)) (fun c_1 => ?_)
      refine x_iload_n C dX5_shareBits_4 1 rfl ?_
      refine x_if_gt (tgt := 10) C dX5_shareBits_5 (by decide) (fun c_5 => ?_) (fun c_5 => absurd c_5 (by decide))
      refine x_iload_n C dX5_shareBits_10 0 rfl ?_
      refine x_i2f (v := 1073741824) C dX5_shareBits_11 (by decide +kernel) ?_
      refine x_iload_n C dX5_shareBits_12 1 rfl ?_
      refine x_i2f (v := 1073741824) C dX5_shareBits_13 (by decide +kernel) ?_
      refine x_fdiv (v := 1065353216) C dX5_shareBits_14 (by decide +kernel) (by decide +kernel) ?_
      refine x_fstore_n (lv1 := [(2, .float 1065353216), (0, .int 2), (1, .int 2)]) C dX5_shareBits_15 (by decide) rfl ?_
      refine x_bipush (v := 127) C dX5_shareBits_16 (by decide) ?_
      refine x_istore_n (lv1 := [(3, .int 127), (2, .float 1065353216), (0, .int 2), (1, .int 2)]) C dX5_shareBits_18 (by decide) rfl ?_
      refine x_fload_n C dX5_shareBits_19 1 rfl ?_
      refine x_fconst1 (v := 1065353216) C dX5_shareBits_20 (by decide +kernel) ?_
      refine x_fcmp (v := 0) C dX5_shareBits_21 (by decide +kernel) ?_
      refine x_if_ge (tgt := 39) C dX5_shareBits_22 (by decide) (fun c_22 => ?_) (fun c_22 => absurd c_22 (by decide))
      refine x_fload_n C dX5_shareBits_39 1 rfl ?_
      refine x_ldcf (v := 1258291200) C kw_con_X5_203 dX5_shareBits_40 ?_
      refine x_fmul (v := 1258291200) C dX5_shareBits_42 (by decide +kernel) (by decide +kernel) ?_
      refine x_f2i (v := 8388608) C dX5_shareBits_43 (by decide +kernel) ?_
      refine x_ldc (v := 8388608) C kw_con_X5_204 dX5_shareBits_44 ?_
      refine x_isub C dX5_shareBits_46 ?_
      refine Wd.cast (w1 := []) (lv1 := [(3, .int 127), (2, .float 1065353216), (0, .int 2), (1, .int 2)]) (st1 := [.int 0]) rfl rfl rfl ?_
      refine x_istore (lv1 := [(4, .int 0), (3, .int 127), (2, .float 1065353216), (0, .int 2), (1, .int 2)]) C dX5_shareBits_47 (by decide) rfl ?_
      refine x_iload_n C dX5_shareBits_49 1 rfl ?_
      refine x_bipush (v := 23) C dX5_shareBits_50 (by decide) ?_
      refine x_ishl C dX5_shareBits_52 ?_
      refine x_iload C dX5_shareBits_53 0 rfl ?_
      refine x_ior C dX5_shareBits_55 ?_
      exact x_iret C hr hlocks rfl () (by decide +kernel) (gEq.rf _) dX5_shareBits_56
  · rcases (show mm = 0 ∨ mm = 1 ∨ mm = 2 ∨ mm = 3 by omega) with rfl | rfl | rfl | rfl
    · refine Wd.cast (w1 := []) (lv1 := [(0, .int 0), (1, .int 3)]) rfl rfl rfl ?_
      refine x_iload_n C dX5_shareBits_0 0 rfl ?_
      refine x_if_le (tgt := 8) C dX5_shareBits_1 (by decide) (fun c_1 => ?_) (fun c_1 => absurd c_1 (by decide))
      refine x_iconst (v := 0) C dX5_shareBits_8 (by decide) ?_
      exact x_iret C hr hlocks rfl () (by decide +kernel) (gEq.rf _) dX5_shareBits_9
    · refine Wd.cast (w1 := []) (lv1 := [(0, .int 1), (1, .int 3)]) rfl rfl rfl ?_
      refine x_iload_n C dX5_shareBits_0 0 rfl ?_
      refine x_if_le (tgt := 8) C dX5_shareBits_1 (by decide) (fun c_1 => absurd c_1 (by decide)) (fun c_1 => ?_)
      refine x_iload_n C dX5_shareBits_4 1 rfl ?_
      refine x_if_gt (tgt := 10) C dX5_shareBits_5 (by decide) (fun c_5 => ?_) (fun c_5 => absurd c_5 (by decide))
      refine x_iload_n C dX5_shareBits_10 0 rfl ?_
      refine x_i2f (v := 1065353216) C dX5_shareBits_11 (by decide +kernel) ?_
      refine x_iload_n C dX5_shareBits_12 1 rfl ?_
      refine x_i2f (v := 1077936128) C dX5_shareBits_13 (by decide +kernel) ?_
      refine x_fdiv (v := 1051372203) C dX5_shareBits_14 (by decide +kernel) (by decide +kernel) ?_
      refine x_fstore_n (lv1 := [(2, .float 1051372203), (0, .int 1), (1, .int 3)]) C dX5_shareBits_15 (by decide) rfl ?_
      refine x_bipush (v := 127) C dX5_shareBits_16 (by decide) ?_
      refine x_istore_n (lv1 := [(3, .int 127), (2, .float 1051372203), (0, .int 1), (1, .int 3)]) C dX5_shareBits_18 (by decide) rfl ?_
      refine x_fload_n C dX5_shareBits_19 1 rfl ?_
      refine x_fconst1 (v := 1065353216) C dX5_shareBits_20 (by decide +kernel) ?_
      refine x_fcmp (v := (-1)) C dX5_shareBits_21 (by decide +kernel) ?_
      refine x_if_ge (tgt := 39) C dX5_shareBits_22 (by decide) (fun c_22 => absurd c_22 (by decide)) (fun c_22 => ?_)
      refine x_iload_n C dX5_shareBits_25 0 rfl ?_
      refine x_if_le (tgt := 39) C dX5_shareBits_26 (by decide) (fun c_26 => absurd c_26 (by decide)) (fun c_26 => ?_)
      refine x_fload_n C dX5_shareBits_29 1 rfl ?_
      refine x_fconst2 (v := 1073741824) C dX5_shareBits_30 (by decide +kernel) ?_
      refine x_fmul (v := 1059760811) C dX5_shareBits_31 (by decide +kernel) (by decide +kernel) ?_
      refine x_fstore_n (lv1 := [(2, .float 1059760811), (3, .int 127), (0, .int 1), (1, .int 3)]) C dX5_shareBits_32 (by decide) rfl ?_
      refine x_iinc (j := 1) (v := 126) (lv1 := [(3, .int 126), (2, .float 1059760811), (0, .int 1), (1, .int 3)]) C dX5_shareBits_33 rfl (by decide) (by decide) rfl ?_
      refine x_goto (tgt := 19) C dX5_shareBits_36 (by decide) ?_
      refine x_fload_n C dX5_shareBits_19 1 rfl ?_
      refine x_fconst1 (v := 1065353216) C dX5_shareBits_20 (by decide +kernel) ?_
      refine x_fcmp (v := (-1)) C dX5_shareBits_21 (by decide +kernel) ?_
      refine x_if_ge (tgt := 39) C dX5_shareBits_22 (by decide) (fun c_22_2 => absurd c_22_2 (by decide)) (fun c_22_2 => ?_)
      refine x_iload_n C dX5_shareBits_25 0 rfl ?_
      refine x_if_le (tgt := 39) C dX5_shareBits_26 (by decide) (fun c_26_2 => absurd c_26_2 (by decide)) (fun c_26_2 => ?_)
      refine x_fload_n C dX5_shareBits_29 1 rfl ?_
      refine x_fconst2 (v := 1073741824) C dX5_shareBits_30 (by decide +kernel) ?_
      refine x_fmul (v := 1068149419) C dX5_shareBits_31 (by decide +kernel) (by decide +kernel) ?_
      refine x_fstore_n (lv1 := [(2, .float 1068149419), (3, .int 126), (0, .int 1), (1, .int 3)]) C dX5_shareBits_32 (by decide) rfl ?_
      refine x_iinc (j := 1) (v := 125) (lv1 := [(3, .int 125), (2, .float 1068149419), (0, .int 1), (1, .int 3)]) C dX5_shareBits_33 rfl (by decide) (by decide) rfl ?_
      refine x_goto (tgt := 19) C dX5_shareBits_36 (by decide) ?_
      refine x_fload_n C dX5_shareBits_19 1 rfl ?_
      refine x_fconst1 (v := 1065353216) C dX5_shareBits_20 (by decide +kernel) ?_
      refine x_fcmp (v := 1) C dX5_shareBits_21 (by decide +kernel) ?_
      refine x_if_ge (tgt := 39) C dX5_shareBits_22 (by decide) (fun c_22_3 => ?_) (fun c_22_3 => absurd c_22_3 (by decide))
      refine x_fload_n C dX5_shareBits_39 1 rfl ?_
      refine x_ldcf (v := 1258291200) C kw_con_X5_203 dX5_shareBits_40 ?_
      refine x_fmul (v := 1261087403) C dX5_shareBits_42 (by decide +kernel) (by decide +kernel) ?_
      refine x_f2i (v := 11184811) C dX5_shareBits_43 (by decide +kernel) ?_
      refine x_ldc (v := 8388608) C kw_con_X5_204 dX5_shareBits_44 ?_
      refine x_isub C dX5_shareBits_46 ?_
      refine Wd.cast (w1 := []) (lv1 := [(3, .int 125), (2, .float 1068149419), (0, .int 1), (1, .int 3)]) (st1 := [.int 2796203]) rfl rfl rfl ?_
      refine x_istore (lv1 := [(4, .int 2796203), (3, .int 125), (2, .float 1068149419), (0, .int 1), (1, .int 3)]) C dX5_shareBits_47 (by decide) rfl ?_
      refine x_iload_n C dX5_shareBits_49 1 rfl ?_
      refine x_bipush (v := 23) C dX5_shareBits_50 (by decide) ?_
      refine x_ishl C dX5_shareBits_52 ?_
      refine x_iload C dX5_shareBits_53 0 rfl ?_
      refine x_ior C dX5_shareBits_55 ?_
      exact x_iret C hr hlocks rfl () (by decide +kernel) (gEq.rf _) dX5_shareBits_56
    · refine Wd.cast (w1 := []) (lv1 := [(0, .int 2), (1, .int 3)]) rfl rfl rfl ?_
      refine x_iload_n C dX5_shareBits_0 0 rfl ?_
      refine x_if_le (tgt := 8) C dX5_shareBits_1 (by decide) (fun c_1 => absurd c_1 (by decide)) (fun c_1 => ?_)
      refine x_iload_n C dX5_shareBits_4 1 rfl ?_
      refine x_if_gt (tgt := 10) C dX5_shareBits_5 (by decide) (fun c_5 => ?_) (fun c_5 => absurd c_5 (by decide))
      refine x_iload_n C dX5_shareBits_10 0 rfl ?_
      refine x_i2f (v := 1073741824) C dX5_shareBits_11 (by decide +kernel) ?_
      refine x_iload_n C dX5_shareBits_12 1 rfl ?_
      refine x_i2f (v := 1077936128) C dX5_shareBits_13 (by decide +kernel) ?_
      refine x_fdiv (v := 1059760811) C dX5_shareBits_14 (by decide +kernel) (by decide +kernel) ?_
      refine x_fstore_n (lv1 := [(2, .float 1059760811), (0, .int 2), (1, .int 3)]) C dX5_shareBits_15 (by decide) rfl ?_
      refine x_bipush (v := 127) C dX5_shareBits_16 (by decide) ?_
      refine x_istore_n (lv1 := [(3, .int 127), (2, .float 1059760811), (0, .int 2), (1, .int 3)]) C dX5_shareBits_18 (by decide) rfl ?_
      refine x_fload_n C dX5_shareBits_19 1 rfl ?_
      refine x_fconst1 (v := 1065353216) C dX5_shareBits_20 (by decide +kernel) ?_
      refine x_fcmp (v := (-1)) C dX5_shareBits_21 (by decide +kernel) ?_
      refine x_if_ge (tgt := 39) C dX5_shareBits_22 (by decide) (fun c_22 => absurd c_22 (by decide)) (fun c_22 => ?_)
      refine x_iload_n C dX5_shareBits_25 0 rfl ?_
      refine x_if_le (tgt := 39) C dX5_shareBits_26 (by decide) (fun c_26 => absurd c_26 (by decide)) (fun c_26 => ?_)
      refine x_fload_n C dX5_shareBits_29 1 rfl ?_
      refine x_fconst2 (v := 1073741824) C dX5_shareBits_30 (by decide +kernel) ?_
      refine x_fmul (v := 1068149419) C dX5_shareBits_31 (by decide +kernel) (by decide +kernel) ?_
      refine x_fstore_n (lv1 := [(2, .float 1068149419), (3, .int 127), (0, .int 2), (1, .int 3)]) C dX5_shareBits_32 (by decide) rfl ?_
      refine x_iinc (j := 1) (v := 126) (lv1 := [(3, .int 126), (2, .float 1068149419), (0, .int 2), (1, .int 3)]) C dX5_shareBits_33 rfl (by decide) (by decide) rfl ?_
      refine x_goto (tgt := 19) C dX5_shareBits_36 (by decide) ?_
      refine x_fload_n C dX5_shareBits_19 1 rfl ?_
      refine x_fconst1 (v := 1065353216) C dX5_shareBits_20 (by decide +kernel) ?_
      refine x_fcmp (v := 1) C dX5_shareBits_21 (by decide +kernel) ?_
      refine x_if_ge (tgt := 39) C dX5_shareBits_22 (by decide) (fun c_22_2 => ?_) (fun c_22_2 => absurd c_22_2 (by decide))
      refine x_fload_n C dX5_shareBits_39 1 rfl ?_
      refine x_ldcf (v := 1258291200) C kw_con_X5_203 dX5_shareBits_40 ?_
      refine x_fmul (v := 1261087403) C dX5_shareBits_42 (by decide +kernel) (by decide +kernel) ?_
      refine x_f2i (v := 11184811) C dX5_shareBits_43 (by decide +kernel) ?_
      refine x_ldc (v := 8388608) C kw_con_X5_204 dX5_shareBits_44 ?_
      refine x_isub C dX5_shareBits_46 ?_
      refine Wd.cast (w1 := []) (lv1 := [(3, .int 126), (2, .float 1068149419), (0, .int 2), (1, .int 3)]) (st1 := [.int 2796203]) rfl rfl rfl ?_
      refine x_istore (lv1 := [(4, .int 2796203), (3, .int 126), (2, .float 1068149419), (0, .int 2), (1, .int 3)]) C dX5_shareBits_47 (by decide) rfl ?_
      refine x_iload_n C dX5_shareBits_49 1 rfl ?_
      refine x_bipush (v := 23) C dX5_shareBits_50 (by decide) ?_
      refine x_ishl C dX5_shareBits_52 ?_
      refine x_iload C dX5_shareBits_53 0 rfl ?_
      refine x_ior C dX5_shareBits_55 ?_
      exact x_iret C hr hlocks rfl () (by decide +kernel) (gEq.rf _) dX5_shareBits_56
    · refine Wd.cast (w1 := []) (lv1 := [(0, .int 3), (1, .int 3)]) rfl rfl rfl ?_
      refine x_iload_n C dX5_shareBits_0 0 rfl ?_
      refine x_if_le (tgt := 8) C dX5_shareBits_1 (by decide) (fun c_1 => absurd c_1 (by decide)) (fun c_1 => ?_)
      refine x_iload_n C dX5_shareBits_4 1 rfl ?_
      refine x_if_gt (tgt := 10) C dX5_shareBits_5 (by decide) (fun c_5 => ?_) (fun c_5 => absurd c_5 (by decide))
      refine x_iload_n C dX5_shareBits_10 0 rfl ?_
      refine x_i2f (v := 1077936128) C dX5_shareBits_11 (by decide +kernel) ?_
      refine x_iload_n C dX5_shareBits_12 1 rfl ?_
      refine x_i2f (v := 1077936128) C dX5_shareBits_13 (by decide +kernel) ?_
      refine x_fdiv (v := 1065353216) C dX5_shareBits_14 (by decide +kernel) (by decide +kernel) ?_
      refine x_fstore_n (lv1 := [(2, .float 1065353216), (0, .int 3), (1, .int 3)]) C dX5_shareBits_15 (by decide) rfl ?_
      refine x_bipush (v := 127) C dX5_shareBits_16 (by decide) ?_
      refine x_istore_n (lv1 := [(3, .int 127), (2, .float 1065353216), (0, .int 3), (1, .int 3)]) C dX5_shareBits_18 (by decide) rfl ?_
      refine x_fload_n C dX5_shareBits_19 1 rfl ?_
      refine x_fconst1 (v := 1065353216) C dX5_shareBits_20 (by decide +kernel) ?_
      refine x_fcmp (v := 0) C dX5_shareBits_21 (by decide +kernel) ?_
      refine x_if_ge (tgt := 39) C dX5_shareBits_22 (by decide) (fun c_22 => ?_) (fun c_22 => absurd c_22 (by decide))
      refine x_fload_n C dX5_shareBits_39 1 rfl ?_
      refine x_ldcf (v := 1258291200) C kw_con_X5_203 dX5_shareBits_40 ?_
      refine x_fmul (v := 1258291200) C dX5_shareBits_42 (by decide +kernel) (by decide +kernel) ?_
      refine x_f2i (v := 8388608) C dX5_shareBits_43 (by decide +kernel) ?_
      refine x_ldc (v := 8388608) C kw_con_X5_204 dX5_shareBits_44 ?_
      refine x_isub C dX5_shareBits_46 ?_
      refine Wd.cast (w1 := []) (lv1 := [(3, .int 127), (2, .float 1065353216), (0, .int 3), (1, .int 3)]) (st1 := [.int 0]) rfl rfl rfl ?_
      refine x_istore (lv1 := [(4, .int 0), (3, .int 127), (2, .float 1065353216), (0, .int 3), (1, .int 3)]) C dX5_shareBits_47 (by decide) rfl ?_
      refine x_iload_n C dX5_shareBits_49 1 rfl ?_
      refine x_bipush (v := 23) C dX5_shareBits_50 (by decide) ?_
      refine x_ishl C dX5_shareBits_52 ?_
      refine x_iload C dX5_shareBits_53 0 rfl ?_
      refine x_ior C dX5_shareBits_55 ?_
      exact x_iret C hr hlocks rfl () (by decide +kernel) (gEq.rf _) dX5_shareBits_56
  · rcases (show mm = 0 ∨ mm = 1 ∨ mm = 2 ∨ mm = 3 ∨ mm = 4 by omega) with rfl | rfl | rfl | rfl | rfl
    · refine Wd.cast (w1 := []) (lv1 := [(0, .int 0), (1, .int 4)]) rfl rfl rfl ?_
      refine x_iload_n C dX5_shareBits_0 0 rfl ?_
      refine x_if_le (tgt := 8) C dX5_shareBits_1 (by decide) (fun c_1 => ?_) (fun c_1 => absurd c_1 (by decide))
      refine x_iconst (v := 0) C dX5_shareBits_8 (by decide) ?_
      exact x_iret C hr hlocks rfl () (by decide +kernel) (gEq.rf _) dX5_shareBits_9
    · refine Wd.cast (w1 := []) (lv1 := [(0, .int 1), (1, .int 4)]) rfl rfl rfl ?_
      refine x_iload_n C dX5_shareBits_0 0 rfl ?_
      refine x_if_le (tgt := 8) C dX5_shareBits_1 (by decide) (fun c_1 => absurd c_1 (by decide)) (fun c_1 => ?_)
      refine x_iload_n C dX5_shareBits_4 1 rfl ?_
      refine x_if_gt (tgt := 10) C dX5_shareBits_5 (by decide) (fun c_5 => ?_) (fun c_5 => absurd c_5 (by decide))
      refine x_iload_n C dX5_shareBits_10 0 rfl ?_
      refine x_i2f (v := 1065353216) C dX5_shareBits_11 (by decide +kernel) ?_
      refine x_iload_n C dX5_shareBits_12 1 rfl ?_
      refine x_i2f (v := 1082130432) C dX5_shareBits_13 (by decide +kernel) ?_
      refine x_fdiv (v := 1048576000) C dX5_shareBits_14 (by decide +kernel) (by decide +kernel) ?_
      refine x_fstore_n (lv1 := [(2, .float 1048576000), (0, .int 1), (1, .int 4)]) C dX5_shareBits_15 (by decide) rfl ?_
      refine x_bipush (v := 127) C dX5_shareBits_16 (by decide) ?_
      refine x_istore_n (lv1 := [(3, .int 127), (2, .float 1048576000), (0, .int 1), (1, .int 4)]) C dX5_shareBits_18 (by decide) rfl ?_
      refine x_fload_n C dX5_shareBits_19 1 rfl ?_
      refine x_fconst1 (v := 1065353216) C dX5_shareBits_20 (by decide +kernel) ?_
      refine x_fcmp (v := (-1)) C dX5_shareBits_21 (by decide +kernel) ?_
      refine x_if_ge (tgt := 39) C dX5_shareBits_22 (by decide) (fun c_22 => absurd c_22 (by decide)) (fun c_22 => ?_)
      refine x_iload_n C dX5_shareBits_25 0 rfl ?_
      refine x_if_le (tgt := 39) C dX5_shareBits_26 (by decide) (fun c_26 => absurd c_26 (by decide)) (fun c_26 => ?_)
      refine x_fload_n C dX5_shareBits_29 1 rfl ?_
      refine x_fconst2 (v := 1073741824) C dX5_shareBits_30 (by decide +kernel) ?_
      refine x_fmul (v := 1056964608) C dX5_shareBits_31 (by decide +kernel) (by decide +kernel) ?_
      refine x_fstore_n (lv1 := [(2, .float 1056964608), (3, .int 127), (0, .int 1), (1, .int 4)]) C dX5_shareBits_32 (by decide) rfl ?_
      refine x_iinc (j := 1) (v := 126) (lv1 := [(3, .int 126), (2, .float 1056964608), (0, .int 1), (1, .int 4)]) C dX5_shareBits_33 rfl (by decide) (by decide) rfl ?_
      refine x_goto (tgt := 19) C dX5_shareBits_36 (by decide) ?_
      refine x_fload_n C dX5_shareBits_19 1 rfl ?_
      refine x_fconst1 (v := 1065353216) C dX5_shareBits_20 (by decide +kernel) ?_
      refine x_fcmp (v := (-1)) C dX5_shareBits_21 (by decide +kernel) ?_
      refine x_if_ge (tgt := 39) C dX5_shareBits_22 (by decide) (fun c_22_2 => absurd c_22_2 (by decide)) (fun c_22_2 => ?_)
      refine x_iload_n C dX5_shareBits_25 0 rfl ?_
      refine x_if_le (tgt := 39) C dX5_shareBits_26 (by decide) (fun c_26_2 => absurd c_26_2 (by decide)) (fun c_26_2 => ?_)
      refine x_fload_n C dX5_shareBits_29 1 rfl ?_
      refine x_fconst2 (v := 1073741824) C dX5_shareBits_30 (by decide +kernel) ?_
      refine x_fmul (v := 1065353216) C dX5_shareBits_31 (by decide +kernel) (by decide +kernel) ?_
      refine x_fstore_n (lv1 := [(2, .float 1065353216), (3, .int 126), (0, .int 1), (1, .int 4)]) C dX5_shareBits_32 (by decide) rfl ?_
      refine x_iinc (j := 1) (v := 125) (lv1 := [(3, .int 125), (2, .float 1065353216), (0, .int 1), (1, .int 4)]) C dX5_shareBits_33 rfl (by decide) (by decide) rfl ?_
      refine x_goto (tgt := 19) C dX5_shareBits_36 (by decide) ?_
      refine x_fload_n C dX5_shareBits_19 1 rfl ?_
      refine x_fconst1 (v := 1065353216) C dX5_shareBits_20 (by decide +kernel) ?_
      refine x_fcmp (v := 0) C dX5_shareBits_21 (by decide +kernel) ?_
      refine x_if_ge (tgt := 39) C dX5_shareBits_22 (by decide) (fun c_22_3 => ?_) (fun c_22_3 => absurd c_22_3 (by decide))
      refine x_fload_n C dX5_shareBits_39 1 rfl ?_
      refine x_ldcf (v := 1258291200) C kw_con_X5_203 dX5_shareBits_40 ?_
      refine x_fmul (v := 1258291200) C dX5_shareBits_42 (by decide +kernel) (by decide +kernel) ?_
      refine x_f2i (v := 8388608) C dX5_shareBits_43 (by decide +kernel) ?_
      refine x_ldc (v := 8388608) C kw_con_X5_204 dX5_shareBits_44 ?_
      refine x_isub C dX5_shareBits_46 ?_
      refine Wd.cast (w1 := []) (lv1 := [(3, .int 125), (2, .float 1065353216), (0, .int 1), (1, .int 4)]) (st1 := [.int 0]) rfl rfl rfl ?_
      refine x_istore (lv1 := [(4, .int 0), (3, .int 125), (2, .float 1065353216), (0, .int 1), (1, .int 4)]) C dX5_shareBits_47 (by decide) rfl ?_
      refine x_iload_n C dX5_shareBits_49 1 rfl ?_
      refine x_bipush (v := 23) C dX5_shareBits_50 (by decide) ?_
      refine x_ishl C dX5_shareBits_52 ?_
      refine x_iload C dX5_shareBits_53 0 rfl ?_
      refine x_ior C dX5_shareBits_55 ?_
      exact x_iret C hr hlocks rfl () (by decide +kernel) (gEq.rf _) dX5_shareBits_56
    · refine Wd.cast (w1 := []) (lv1 := [(0, .int 2), (1, .int 4)]) rfl rfl rfl ?_
      refine x_iload_n C dX5_shareBits_0 0 rfl ?_
      refine x_if_le (tgt := 8) C dX5_shareBits_1 (by decide) (fun c_1 => absurd c_1 (by decide)) (fun c_1 => ?_)
      refine x_iload_n C dX5_shareBits_4 1 rfl ?_
      refine x_if_gt (tgt := 10) C dX5_shareBits_5 (by decide) (fun c_5 => ?_) (fun c_5 => absurd c_5 (by decide))
      refine x_iload_n C dX5_shareBits_10 0 rfl ?_
      refine x_i2f (v := 1073741824) C dX5_shareBits_11 (by decide +kernel) ?_
      refine x_iload_n C dX5_shareBits_12 1 rfl ?_
      refine x_i2f (v := 1082130432) C dX5_shareBits_13 (by decide +kernel) ?_
      refine x_fdiv (v := 1056964608) C dX5_shareBits_14 (by decide +kernel) (by decide +kernel) ?_
      refine x_fstore_n (lv1 := [(2, .float 1056964608), (0, .int 2), (1, .int 4)]) C dX5_shareBits_15 (by decide) rfl ?_
      refine x_bipush (v := 127) C dX5_shareBits_16 (by decide) ?_
      refine x_istore_n (lv1 := [(3, .int 127), (2, .float 1056964608), (0, .int 2), (1, .int 4)]) C dX5_shareBits_18 (by decide) rfl ?_
      refine x_fload_n C dX5_shareBits_19 1 rfl ?_
      refine x_fconst1 (v := 1065353216) C dX5_shareBits_20 (by decide +kernel) ?_
      refine x_fcmp (v := (-1)) C dX5_shareBits_21 (by decide +kernel) ?_
      refine x_if_ge (tgt := 39) C dX5_shareBits_22 (by decide) (fun c_22 => absurd c_22 (by decide)) (fun c_22 => ?_)
      refine x_iload_n C dX5_shareBits_25 0 rfl ?_
      refine x_if_le (tgt := 39) C dX5_shareBits_26 (by decide) (fun c_26 => absurd c_26 (by decide)) (fun c_26 => ?_)
      refine x_fload_n C dX5_shareBits_29 1 rfl ?_
      refine x_fconst2 (v := 1073741824) C dX5_shareBits_30 (by decide +kernel) ?_
      refine x_fmul (v := 1065353216) C dX5_shareBits_31 (by decide +kernel) (by decide +kernel) ?_
      refine x_fstore_n (lv1 := [(2, .float 1065353216), (3, .int 127), (0, .int 2), (1, .int 4)]) C dX5_shareBits_32 (by decide) rfl ?_
      refine x_iinc (j := 1) (v := 126) (lv1 := [(3, .int 126), (2, .float 1065353216), (0, .int 2), (1, .int 4)]) C dX5_shareBits_33 rfl (by decide) (by decide) rfl ?_
      refine x_goto (tgt := 19) C dX5_shareBits_36 (by decide) ?_
      refine x_fload_n C dX5_shareBits_19 1 rfl ?_
      refine x_fconst1 (v := 1065353216) C dX5_shareBits_20 (by decide +kernel) ?_
      refine x_fcmp (v := 0) C dX5_shareBits_21 (by decide +kernel) ?_
      refine x_if_ge (tgt := 39) C dX5_shareBits_22 (by decide) (fun c_22_2 => ?_) (fun c_22_2 => absurd c_22_2 (by decide))
      refine x_fload_n C dX5_shareBits_39 1 rfl ?_
      refine x_ldcf (v := 1258291200) C kw_con_X5_203 dX5_shareBits_40 ?_
      refine x_fmul (v := 1258291200) C dX5_shareBits_42 (by decide +kernel) (by decide +kernel) ?_
      refine x_f2i (v := 8388608) C dX5_shareBits_43 (by decide +kernel) ?_
      refine x_ldc (v := 8388608) C kw_con_X5_204 dX5_shareBits_44 ?_
      refine x_isub C dX5_shareBits_46 ?_
      refine Wd.cast (w1 := []) (lv1 := [(3, .int 126), (2, .float 1065353216), (0, .int 2), (1, .int 4)]) (st1 := [.int 0]) rfl rfl rfl ?_
      refine x_istore (lv1 := [(4, .int 0), (3, .int 126), (2, .float 1065353216), (0, .int 2), (1, .int 4)]) C dX5_shareBits_47 (by decide) rfl ?_
      refine x_iload_n C dX5_shareBits_49 1 rfl ?_
      refine x_bipush (v := 23) C dX5_shareBits_50 (by decide) ?_
      refine x_ishl C dX5_shareBits_52 ?_
      refine x_iload C dX5_shareBits_53 0 rfl ?_
      refine x_ior C dX5_shareBits_55 ?_
      exact x_iret C hr hlocks rfl () (by decide +kernel) (gEq.rf _) dX5_shareBits_56
    · refine Wd.cast (w1 := []) (lv1 := [(0, .int 3), (1, .int 4)]) rfl rfl rfl ?_
      refine x_iload_n C dX5_shareBits_0 0 rfl ?_
      refine x_if_le (tgt := 8) C dX5_shareBits_1 (by decide) (fun c_1 => absurd c_1 (by decide)) (fun c_1 => ?_)
      refine x_iload_n C dX5_shareBits_4 1 rfl ?_
      refine x_if_gt (tgt := 10) C dX5_shareBits_5 (by decide) (fun c_5 => ?_) (fun c_5 => absurd c_5 (by decide))
      refine x_iload_n C dX5_shareBits_10 0 rfl ?_
      refine x_i2f (v := 1077936128) C dX5_shareBits_11 (by decide +kernel) ?_
      refine x_iload_n C dX5_shareBits_12 1 rfl ?_
      refine x_i2f (v := 1082130432) C dX5_shareBits_13 (by decide +kernel) ?_
      refine x_fdiv (v := 1061158912) C dX5_shareBits_14 (by decide +kernel) (by decide +kernel) ?_
      refine x_fstore_n (lv1 := [(2, .float 1061158912), (0, .int 3), (1, .int 4)]) C dX5_shareBits_15 (by decide) rfl ?_
      refine x_bipush (v := 127) C dX5_shareBits_16 (by decide) ?_
      refine x_istore_n (lv1 := [(3, .int 127), (2, .float 1061158912), (0, .int 3), (1, .int 4)]) C dX5_shareBits_18 (by decide) rfl ?_
      refine x_fload_n C dX5_shareBits_19 1 rfl ?_
      refine x_fconst1 (v := 1065353216) C dX5_shareBits_20 (by decide +kernel) ?_
      refine x_fcmp (v := (-1)) C dX5_shareBits_21 (by decide +kernel) ?_
      refine x_if_ge (tgt := 39) C dX5_shareBits_22 (by decide) (fun c_22 => absurd c_22 (by decide)) (fun c_22 => ?_)
      refine x_iload_n C dX5_shareBits_25 0 rfl ?_
      refine x_if_le (tgt := 39) C dX5_shareBits_26 (by decide) (fun c_26 => absurd c_26 (by decide)) (fun c_26 => ?_)
      refine x_fload_n C dX5_shareBits_29 1 rfl ?_
      refine x_fconst2 (v := 1073741824) C dX5_shareBits_30 (by decide +kernel) ?_
      refine x_fmul (v := 1069547520) C dX5_shareBits_31 (by decide +kernel) (by decide +kernel) ?_
      refine x_fstore_n (lv1 := [(2, .float 1069547520), (3, .int 127), (0, .int 3), (1, .int 4)]) C dX5_shareBits_32 (by decide) rfl ?_
      refine x_iinc (j := 1) (v := 126) (lv1 := [(3, .int 126), (2, .float 1069547520), (0, .int 3), (1, .int 4)]) C dX5_shareBits_33 rfl (by decide) (by decide) rfl ?_
      refine x_goto (tgt := 19) C dX5_shareBits_36 (by decide) ?_
      refine x_fload_n C dX5_shareBits_19 1 rfl ?_
      refine x_fconst1 (v := 1065353216) C dX5_shareBits_20 (by decide +kernel) ?_
      refine x_fcmp (v := 1) C dX5_shareBits_21 (by decide +kernel) ?_
      refine x_if_ge (tgt := 39) C dX5_shareBits_22 (by decide) (fun c_22_2 => ?_) (fun c_22_2 => absurd c_22_2 (by decide))
      refine x_fload_n C dX5_shareBits_39 1 rfl ?_
      refine x_ldcf (v := 1258291200) C kw_con_X5_203 dX5_shareBits_40 ?_
      refine x_fmul (v := 1262485504) C dX5_shareBits_42 (by decide +kernel) (by decide +kernel) ?_
      refine x_f2i (v := 12582912) C dX5_shareBits_43 (by decide +kernel) ?_
      refine x_ldc (v := 8388608) C kw_con_X5_204 dX5_shareBits_44 ?_
      refine x_isub C dX5_shareBits_46 ?_
      refine Wd.cast (w1 := []) (lv1 := [(3, .int 126), (2, .float 1069547520), (0, .int 3), (1, .int 4)]) (st1 := [.int 4194304]) rfl rfl rfl ?_
      refine x_istore (lv1 := [(4, .int 4194304), (3, .int 126), (2, .float 1069547520), (0, .int 3), (1, .int 4)]) C dX5_shareBits_47 (by decide) rfl ?_
      refine x_iload_n C dX5_shareBits_49 1 rfl ?_
      refine x_bipush (v := 23) C dX5_shareBits_50 (by decide) ?_
      refine x_ishl C dX5_shareBits_52 ?_
      refine x_iload C dX5_shareBits_53 0 rfl ?_
      refine x_ior C dX5_shareBits_55 ?_
      exact x_iret C hr hlocks rfl () (by decide +kernel) (gEq.rf _) dX5_shareBits_56
    · refine Wd.cast (w1 := []) (lv1 := [(0, .int 4), (1, .int 4)]) rfl rfl rfl ?_
      refine x_iload_n C dX5_shareBits_0 0 rfl ?_
      refine x_if_le (tgt := 8) C dX5_shareBits_1 (by decide) (fun c_1 => absurd c_1 (by decide)) (fun c_1 => ?_)
      refine x_iload_n C dX5_shareBits_4 1 rfl ?_
      refine x_if_gt (tgt := 10) C dX5_shareBits_5 (by decide) (fun c_5 => ?_) (fun c_5 => absurd c_5 (by decide))
      refine x_iload_n C dX5_shareBits_10 0 rfl ?_
      refine x_i2f (v := 1082130432) C dX5_shareBits_11 (by decide +kernel) ?_
      refine x_iload_n C dX5_shareBits_12 1 rfl ?_
      refine x_i2f (v := 1082130432) C dX5_shareBits_13 (by decide +kernel) ?_
      refine x_fdiv (v := 1065353216) C dX5_shareBits_14 (by decide +kernel) (by decide +kernel) ?_
      refine x_fstore_n (lv1 := [(2, .float 1065353216), (0, .int 4), (1, .int 4)]) C dX5_shareBits_15 (by decide) rfl ?_
      refine x_bipush (v := 127) C dX5_shareBits_16 (by decide) ?_
      refine x_istore_n (lv1 := [(3, .int 127), (2, .float 1065353216), (0, .int 4), (1, .int 4)]) C dX5_shareBits_18 (by decide) rfl ?_
      refine x_fload_n C dX5_shareBits_19 1 rfl ?_
      refine x_fconst1 (v := 1065353216) C dX5_shareBits_20 (by decide +kernel) ?_
      refine x_fcmp (v := 0) C dX5_shareBits_21 (by decide +kernel) ?_
      refine x_if_ge (tgt := 39) C dX5_shareBits_22 (by decide) (fun c_22 => ?_) (fun c_22 => absurd c_22 (by decide))
      refine x_fload_n C dX5_shareBits_39 1 rfl ?_
      refine x_ldcf (v := 1258291200) C kw_con_X5_203 dX5_shareBits_40 ?_
      refine x_fmul (v := 1258291200) C dX5_shareBits_42 (by decide +kernel) (by decide +kernel) ?_
      refine x_f2i (v := 8388608) C dX5_shareBits_43 (by decide +kernel) ?_
      refine x_ldc (v := 8388608) C kw_con_X5_204 dX5_shareBits_44 ?_
      refine x_isub C dX5_shareBits_46 ?_
      refine Wd.cast (w1 := []) (lv1 := [(3, .int 127), (2, .float 1065353216), (0, .int 4), (1, .int 4)]) (st1 := [.int 0]) rfl rfl rfl ?_
      refine x_istore (lv1 := [(4, .int 0), (3, .int 127), (2, .float 1065353216), (0, .int 4), (1, .int 4)]) C dX5_shareBits_47 (by decide) rfl ?_
      refine x_iload_n C dX5_shareBits_49 1 rfl ?_
      refine x_bipush (v := 23) C dX5_shareBits_50 (by decide) ?_
      refine x_ishl C dX5_shareBits_52 ?_
      refine x_iload C dX5_shareBits_53 0 rfl ?_
      refine x_ior C dX5_shareBits_55 ?_
      exact x_iret C hr hlocks rfl () (by decide +kernel) (gEq.rf _) dX5_shareBits_56
  · rcases (show mm = 0 ∨ mm = 1 ∨ mm = 2 ∨ mm = 3 ∨ mm = 4 ∨ mm = 5 by omega) with rfl | rfl | rfl | rfl | rfl | rfl
    · refine Wd.cast (w1 := []) (lv1 := [(0, .int 0), (1, .int 5)]) rfl rfl rfl ?_
      refine x_iload_n C dX5_shareBits_0 0 rfl ?_
      refine x_if_le (tgt := 8) C dX5_shareBits_1 (by decide) (fun c_1 => ?_) (fun c_1 => absurd c_1 (by decide))
      refine x_iconst (v := 0) C dX5_shareBits_8 (by decide) ?_
      exact x_iret C hr hlocks rfl () (by decide +kernel) (gEq.rf _) dX5_shareBits_9
    · refine Wd.cast (w1 := []) (lv1 := [(0, .int 1), (1, .int 5)]) rfl rfl rfl ?_
      refine x_iload_n C dX5_shareBits_0 0 rfl ?_
      refine x_if_le (tgt := 8) C dX5_shareBits_1 (by decide) (fun c_1 => absurd c_1 (by decide)) (fun c_1 => ?_)
      refine x_iload_n C dX5_shareBits_4 1 rfl ?_
      refine x_if_gt (tgt := 10) C dX5_shareBits_5 (by decide) (fun c_5 => ?_) (fun c_5 => absurd c_5 (by decide))
      refine x_iload_n C dX5_shareBits_10 0 rfl ?_
      refine x_i2f (v := 1065353216) C dX5_shareBits_11 (by decide +kernel) ?_
      refine x_iload_n C dX5_shareBits_12 1 rfl ?_
      refine x_i2f (v := 1084227584) C dX5_shareBits_13 (by decide +kernel) ?_
      refine x_fdiv (v := 1045220557) C dX5_shareBits_14 (by decide +kernel) (by decide +kernel) ?_
      refine x_fstore_n (lv1 := [(2, .float 1045220557), (0, .int 1), (1, .int 5)]) C dX5_shareBits_15 (by decide) rfl ?_
      refine x_bipush (v := 127) C dX5_shareBits_16 (by decide) ?_
      refine x_istore_n (lv1 := [(3, .int 127), (2, .float 1045220557), (0, .int 1), (1, .int 5)]) C dX5_shareBits_18 (by decide) rfl ?_
      refine x_fload_n C dX5_shareBits_19 1 rfl ?_
      refine x_fconst1 (v := 1065353216) C dX5_shareBits_20 (by decide +kernel) ?_
      refine x_fcmp (v := (-1)) C dX5_shareBits_21 (by decide +kernel) ?_
      refine x_if_ge (tgt := 39) C dX5_shareBits_22 (by decide) (fun c_22 => absurd c_22 (by decide)) (fun c_22 => ?_)
      refine x_iload_n C dX5_shareBits_25 0 rfl ?_
      refine x_if_le (tgt := 39) C dX5_shareBits_26 (by decide) (fun c_26 => absurd c_26 (by decide)) (fun c_26 => ?_)
      refine x_fload_n C dX5_shareBits_29 1 rfl ?_
      refine x_fconst2 (v := 1073741824) C dX5_shareBits_30 (by decide +kernel) ?_
      refine x_fmul (v := 1053609165) C dX5_shareBits_31 (by decide +kernel) (by decide +kernel) ?_
      refine x_fstore_n (lv1 := [(2, .float 1053609165), (3, .int 127), (0, .int 1), (1, .int 5)]) C dX5_shareBits_32 (by decide) rfl ?_
      refine x_iinc (j := 1) (v := 126) (lv1 := [(3, .int 126), (2, .float 1053609165), (0, .int 1), (1, .int 5)]) C dX5_shareBits_33 rfl (by decide) (by decide) rfl ?_
      refine x_goto (tgt := 19) C dX5_shareBits_36 (by decide) ?_
      refine x_fload_n C dX5_shareBits_19 1 rfl ?_
      refine x_fconst1 (v := 1065353216) C dX5_shareBits_20 (by decide +kernel) ?_
      refine x_fcmp (v := (-1)) C dX5_shareBits_21 (by decide +kernel) ?_
      refine x_if_ge (tgt := 39) C dX5_shareBits_22 (by decide) (fun c_22_2 => absurd c_22_2 (by decide)) (fun c_22_2 => ?_)
      refine x_iload_n C dX5_shareBits_25 0 rfl ?_
      refine x_if_le (tgt := 39) C dX5_shareBits_26 (by decide) (fun c_26_2 => absurd c_26_2 (by decide)) (fun c_26_2 => ?_)
      refine x_fload_n C dX5_shareBits_29 1 rfl ?_
      refine x_fconst2 (v := 1073741824) C dX5_shareBits_30 (by decide +kernel) ?_
      refine x_fmul (v := 1061997773) C dX5_shareBits_31 (by decide +kernel) (by decide +kernel) ?_
      refine x_fstore_n (lv1 := [(2, .float 1061997773), (3, .int 126), (0, .int 1), (1, .int 5)]) C dX5_shareBits_32 (by decide) rfl ?_
      refine x_iinc (j := 1) (v := 125) (lv1 := [(3, .int 125), (2, .float 1061997773), (0, .int 1), (1, .int 5)]) C dX5_shareBits_33 rfl (by decide) (by decide) rfl ?_
      refine x_goto (tgt := 19) C dX5_shareBits_36 (by decide) ?_
      refine x_fload_n C dX5_shareBits_19 1 rfl ?_
      refine x_fconst1 (v := 1065353216) C dX5_shareBits_20 (by decide +kernel) ?_
      refine x_fcmp (v := (-1)) C dX5_shareBits_21 (by decide +kernel) ?_
      refine x_if_ge (tgt := 39) C dX5_shareBits_22 (by decide) (fun c_22_3 => absurd c_22_3 (by decide)) (fun c_22_3 => ?_)
      refine x_iload_n C dX5_shareBits_25 0 rfl ?_
      refine x_if_le (tgt := 39) C dX5_shareBits_26 (by decide) (fun c_26_3 => absurd c_26_3 (by decide)) (fun c_26_3 => ?_)
      refine x_fload_n C dX5_shareBits_29 1 rfl ?_
      refine x_fconst2 (v := 1073741824) C dX5_shareBits_30 (by decide +kernel) ?_
      refine x_fmul (v := 1070386381) C dX5_shareBits_31 (by decide +kernel) (by decide +kernel) ?_
      refine x_fstore_n (lv1 := [(2, .float 1070386381), (3, .int 125), (0, .int 1), (1, .int 5)]) C dX5_shareBits_32 (by decide) rfl ?_
      refine x_iinc (j := 1) (v := 124) (lv1 := [(3, .int 124), (2, .float 1070386381), (0, .int 1), (1, .int 5)]) C dX5_shareBits_33 rfl (by decide) (by decide) rfl ?_
      refine x_goto (tgt := 19) C dX5_shareBits_36 (by decide) ?_
      refine x_fload_n C dX5_shareBits_19 1 rfl ?_
      refine x_fconst1 (v := 1065353216) C dX5_shareBits_20 (by decide +kernel) ?_
      refine x_fcmp (v := 1) C dX5_shareBits_21 (by decide +kernel) ?_
      refine x_if_ge (tgt := 39) C dX5_shareBits_22 (by decide) (fun c_22_4 => ?_) (fun c_22_4 => absurd c_22_4 (by decide))
      refine x_fload_n C dX5_shareBits_39 1 rfl ?_
      refine x_ldcf (v := 1258291200) C kw_con_X5_203 dX5_shareBits_40 ?_
      refine x_fmul (v := 1263324365) C dX5_shareBits_42 (by decide +kernel) (by decide +kernel) ?_
      refine x_f2i (v := 13421773) C dX5_shareBits_43 (by decide +kernel) ?_
      refine x_ldc (v := 8388608) C kw_con_X5_204 dX5_shareBits_44 ?_
      refine x_isub C dX5_shareBits_46 ?_
      refine Wd.cast (w1 := []) (lv1 := [(3, .int 124), (2, .float 1070386381), (0, .int 1), (1, .int 5)]) (st1 := [.int 5033165]) rfl rfl rfl ?_
      refine x_istore (lv1 := [(4, .int 5033165), (3, .int 124), (2, .float 1070386381), (0, .int 1), (1, .int 5)]) C dX5_shareBits_47 (by decide) rfl ?_
      refine x_iload_n C dX5_shareBits_49 1 rfl ?_
      refine x_bipush (v := 23) C dX5_shareBits_50 (by decide) ?_
      refine x_ishl C dX5_shareBits_52 ?_
      refine x_iload C dX5_shareBits_53 0 rfl ?_
      refine x_ior C dX5_shareBits_55 ?_
      exact x_iret C hr hlocks rfl () (by decide +kernel) (gEq.rf _) dX5_shareBits_56
    · refine Wd.cast (w1 := []) (lv1 := [(0, .int 2), (1, .int 5)]) rfl rfl rfl ?_
      refine x_iload_n C dX5_shareBits_0 0 rfl ?_
      refine x_if_le (tgt := 8) C dX5_shareBits_1 (by decide) (fun c_1 => absurd c_1 (by decide)) (fun c_1 => ?_)
      refine x_iload_n C dX5_shareBits_4 1 rfl ?_
      refine x_if_gt (tgt := 10) C dX5_shareBits_5 (by decide) (fun c_5 => ?_) (fun c_5 => absurd c_5 (by decide))
      refine x_iload_n C dX5_shareBits_10 0 rfl ?_
      refine x_i2f (v := 1073741824) C dX5_shareBits_11 (by decide +kernel) ?_
      refine x_iload_n C dX5_shareBits_12 1 rfl ?_
      refine x_i2f (v := 1084227584) C dX5_shareBits_13 (by decide +kernel) ?_
      refine x_fdiv (v := 1053609165) C dX5_shareBits_14 (by decide +kernel) (by decide +kernel) ?_
      refine x_fstore_n (lv1 := [(2, .float 1053609165), (0, .int 2), (1, .int 5)]) C dX5_shareBits_15 (by decide) rfl ?_
      refine x_bipush (v := 127) C dX5_shareBits_16 (by decide) ?_
      refine x_istore_n (lv1 := [(3, .int 127), (2, .float 1053609165), (0, .int 2), (1, .int 5)]) C dX5_shareBits_18 (by decide) rfl ?_
      refine x_fload_n C dX5_shareBits_19 1 rfl ?_
      refine x_fconst1 (v := 1065353216) C dX5_shareBits_20 (by decide +kernel) ?_
      refine x_fcmp (v := (-1)) C dX5_shareBits_21 (by decide +kernel) ?_
      refine x_if_ge (tgt := 39) C dX5_shareBits_22 (by decide) (fun c_22 => absurd c_22 (by decide)) (fun c_22 => ?_)
      refine x_iload_n C dX5_shareBits_25 0 rfl ?_
      refine x_if_le (tgt := 39) C dX5_shareBits_26 (by decide) (fun c_26 => absurd c_26 (by decide)) (fun c_26 => ?_)
      refine x_fload_n C dX5_shareBits_29 1 rfl ?_
      refine x_fconst2 (v := 1073741824) C dX5_shareBits_30 (by decide +kernel) ?_
      refine x_fmul (v := 1061997773) C dX5_shareBits_31 (by decide +kernel) (by decide +kernel) ?_
      refine x_fstore_n (lv1 := [(2, .float 1061997773), (3, .int 127), (0, .int 2), (1, .int 5)]) C dX5_shareBits_32 (by decide) rfl ?_
      refine x_iinc (j := 1) (v := 126) (lv1 := [(3, .int 126), (2, .float 1061997773), (0, .int 2), (1, .int 5)]) C dX5_shareBits_33 rfl (by decide) (by decide) rfl ?_
      refine x_goto (tgt := 19) C dX5_shareBits_36 (by decide) ?_
      refine x_fload_n C dX5_shareBits_19 1 rfl ?_
      refine x_fconst1 (v := 1065353216) C dX5_shareBits_20 (by decide +kernel) ?_
      refine x_fcmp (v := (-1)) C dX5_shareBits_21 (by decide +kernel) ?_
      refine x_if_ge (tgt := 39) C dX5_shareBits_22 (by decide) (fun c_22_2 => absurd c_22_2 (by decide)) (fun c_22_2 => ?_)
      refine x_iload_n C dX5_shareBits_25 0 rfl ?_
      refine x_if_le (tgt := 39) C dX5_shareBits_26 (by decide) (fun c_26_2 => absurd c_26_2 (by decide)) (fun c_26_2 => ?_)
      refine x_fload_n C dX5_shareBits_29 1 rfl ?_
      refine x_fconst2 (v := 1073741824) C dX5_shareBits_30 (by decide +kernel) ?_
      refine x_fmul (v := 1070386381) C dX5_shareBits_31 (by decide +kernel) (by decide +kernel) ?_
      refine x_fstore_n (lv1 := [(2, .float 1070386381), (3, .int 126), (0, .int 2), (1, .int 5)]) C dX5_shareBits_32 (by decide) rfl ?_
      refine x_iinc (j := 1) (v := 125) (lv1 := [(3, .int 125), (2, .float 1070386381), (0, .int 2), (1, .int 5)]) C dX5_shareBits_33 rfl (by decide) (by decide) rfl ?_
      refine x_goto (tgt := 19) C dX5_shareBits_36 (by decide) ?_
      refine x_fload_n C dX5_shareBits_19 1 rfl ?_
      refine x_fconst1 (v := 1065353216) C dX5_shareBits_20 (by decide +kernel) ?_
      refine x_fcmp (v := 1) C dX5_shareBits_21 (by decide +kernel) ?_
      refine x_if_ge (tgt := 39) C dX5_shareBits_22 (by decide) (fun c_22_3 => ?_) (fun c_22_3 => absurd c_22_3 (by decide))
      refine x_fload_n C dX5_shareBits_39 1 rfl ?_
      refine x_ldcf (v := 1258291200) C kw_con_X5_203 dX5_shareBits_40 ?_
      refine x_fmul (v := 1263324365) C dX5_shareBits_42 (by decide +kernel) (by decide +kernel) ?_
      refine x_f2i (v := 13421773) C dX5_shareBits_43 (by decide +kernel) ?_
      refine x_ldc (v := 8388608) C kw_con_X5_204 dX5_shareBits_44 ?_
      refine x_isub C dX5_shareBits_46 ?_
      refine Wd.cast (w1 := []) (lv1 := [(3, .int 125), (2, .float 1070386381), (0, .int 2), (1, .int 5)]) (st1 := [.int 5033165]) rfl rfl rfl ?_
      refine x_istore (lv1 := [(4, .int 5033165), (3, .int 125), (2, .float 1070386381), (0, .int 2), (1, .int 5)]) C dX5_shareBits_47 (by decide) rfl ?_
      refine x_iload_n C dX5_shareBits_49 1 rfl ?_
      refine x_bipush (v := 23) C dX5_shareBits_50 (by decide) ?_
      refine x_ishl C dX5_shareBits_52 ?_
      refine x_iload C dX5_shareBits_53 0 rfl ?_
      refine x_ior C dX5_shareBits_55 ?_
      exact x_iret C hr hlocks rfl () (by decide +kernel) (gEq.rf _) dX5_shareBits_56
    · refine Wd.cast (w1 := []) (lv1 := [(0, .int 3), (1, .int 5)]) rfl rfl rfl ?_
      refine x_iload_n C dX5_shareBits_0 0 rfl ?_
      refine x_if_le (tgt := 8) C dX5_shareBits_1 (by decide) (fun c_1 => absurd c_1 (by decide)) (fun c_1 => ?_)
      refine x_iload_n C dX5_shareBits_4 1 rfl ?_
      refine x_if_gt (tgt := 10) C dX5_shareBits_5 (by decide) (fun c_5 => ?_) (fun c_5 => absurd c_5 (by decide))
      refine x_iload_n C dX5_shareBits_10 0 rfl ?_
      refine x_i2f (v := 1077936128) C dX5_shareBits_11 (by decide +kernel) ?_
      refine x_iload_n C dX5_shareBits_12 1 rfl ?_
      refine x_i2f (v := 1084227584) C dX5_shareBits_13 (by decide +kernel) ?_
      refine x_fdiv (v := 1058642330) C dX5_shareBits_14 (by decide +kernel) (by decide +kernel) ?_
      refine x_fstore_n (lv1 := [(2, .float 1058642330), (0, .int 3), (1, .int 5)]) C dX5_shareBits_15 (by decide) rfl ?_
      refine x_bipush (v := 127) C dX5_shareBits_16 (by decide) ?_
      refine x_istore_n (lv1 := [(3, .int 127), (2, .float 1058642330), (0, .int 3), (1, .int 5)]) C dX5_shareBits_18 (by decide) rfl ?_
      refine x_fload_n C dX5_shareBits_19 1 rfl ?_
      refine x_fconst1 (v := 1065353216) C dX5_shareBits_20 (by decide +kernel) ?_
      refine x_fcmp (v := (-1)) C dX5_shareBits_21 (by decide +kernel) ?_
      refine x_if_ge (tgt := 39) C dX5_shareBits_22 (by decide) (fun c_22 => absurd c_22 (by decide)) (fun c_22 => ?_)
      refine x_iload_n C dX5_shareBits_25 0 rfl ?_
      refine x_if_le (tgt := 39) C dX5_shareBits_26 (by decide) (fun c_26 => absurd c_26 (by decide)) (fun c_26 => ?_)
      refine x_fload_n C dX5_shareBits_29 1 rfl ?_
      refine x_fconst2 (v := 1073741824) C dX5_shareBits_30 (by decide +kernel) ?_
      refine x_fmul (v := 1067030938) C dX5_shareBits_31 (by decide +kernel) (by decide +kernel) ?_
      refine x_fstore_n (lv1 := [(2, .float 1067030938), (3, .int 127), (0, .int 3), (1, .int 5)]) C dX5_shareBits_32 (by decide) rfl ?_
      refine x_iinc (j := 1) (v := 126) (lv1 := [(3, .int 126), (2, .float 1067030938), (0, .int 3), (1, .int 5)]) C dX5_shareBits_33 rfl (by decide) (by decide) rfl ?_
      refine x_goto (tgt := 19) C dX5_shareBits_36 (by decide) ?_
      refine x_fload_n C dX5_shareBits_19 1 rfl ?_
      refine x_fconst1 (v := 1065353216) C dX5_shareBits_20 (by decide +kernel) ?_
      refine x_fcmp (v := 1) C dX5_shareBits_21 (by decide +kernel) ?_
      refine x_if_ge (tgt := 39) C dX5_shareBits_22 (by decide) (fun c_22_2 => ?_) (fun c_22_2 => absurd c_22_2 (by decide))
      refine x_fload_n C dX5_shareBits_39 1 rfl ?_
      refine x_ldcf (v := 1258291200) C kw_con_X5_203 dX5_shareBits_40 ?_
      refine x_fmul (v := 1259968922) C dX5_shareBits_42 (by decide +kernel) (by decide +kernel) ?_
      refine x_f2i (v := 10066330) C dX5_shareBits_43 (by decide +kernel) ?_
      refine x_ldc (v := 8388608) C kw_con_X5_204 dX5_shareBits_44 ?_
      refine x_isub C dX5_shareBits_46 ?_
      refine Wd.cast (w1 := []) (lv1 := [(3, .int 126), (2, .float 1067030938), (0, .int 3), (1, .int 5)]) (st1 := [.int 1677722]) rfl rfl rfl ?_
      refine x_istore (lv1 := [(4, .int 1677722), (3, .int 126), (2, .float 1067030938), (0, .int 3), (1, .int 5)]) C dX5_shareBits_47 (by decide) rfl ?_
      refine x_iload_n C dX5_shareBits_49 1 rfl ?_
      refine x_bipush (v := 23) C dX5_shareBits_50 (by decide) ?_
      refine x_ishl C dX5_shareBits_52 ?_
      refine x_iload C dX5_shareBits_53 0 rfl ?_
      refine x_ior C dX5_shareBits_55 ?_
      exact x_iret C hr hlocks rfl () (by decide +kernel) (gEq.rf _) dX5_shareBits_56
    · refine Wd.cast (w1 := []) (lv1 := [(0, .int 4), (1, .int 5)]) rfl rfl rfl ?_
      refine x_iload_n C dX5_shareBits_0 0 rfl ?_
      refine x_if_le (tgt := 8) C dX5_shareBits_1 (by decide) (fun c_1 => absurd c_1 (by decide)) (fun c_1 => ?_)
      refine x_iload_n C dX5_shareBits_4 1 rfl ?_
      refine x_if_gt (tgt := 10) C dX5_shareBits_5 (by decide) (fun c_5 => ?_) (fun c_5 => absurd c_5 (by decide))
      refine x_iload_n C dX5_shareBits_10 0 rfl ?_
      refine x_i2f (v := 1082130432) C dX5_shareBits_11 (by decide +kernel) ?_
      refine x_iload_n C dX5_shareBits_12 1 rfl ?_
      refine x_i2f (v := 1084227584) C dX5_shareBits_13 (by decide +kernel) ?_
      refine x_fdiv (v := 1061997773) C dX5_shareBits_14 (by decide +kernel) (by decide +kernel) ?_
      refine x_fstore_n (lv1 := [(2, .float 1061997773), (0, .int 4), (1, .int 5)]) C dX5_shareBits_15 (by decide) rfl ?_
      refine x_bipush (v := 127) C dX5_shareBits_16 (by decide) ?_
      refine x_istore_n (lv1 := [(3, .int 127), (2, .float 1061997773), (0, .int 4), (1, .int 5)]) C dX5_shareBits_18 (by decide) rfl ?_
      refine x_fload_n C dX5_shareBits_19 1 rfl ?_
      refine x_fconst1 (v := 1065353216) C dX5_shareBits_20 (by decide +kernel) ?_
      refine x_fcmp (v := (-1)) C dX5_shareBits_21 (by decide +kernel) ?_
      refine x_if_ge (tgt := 39) C dX5_shareBits_22 (by decide) (fun c_22 => absurd c_22 (by decide)) (fun c_22 => ?_)
      refine x_iload_n C dX5_shareBits_25 0 rfl ?_
      refine x_if_le (tgt := 39) C dX5_shareBits_26 (by decide) (fun c_26 => absurd c_26 (by decide)) (fun c_26 => ?_)
      refine x_fload_n C dX5_shareBits_29 1 rfl ?_
      refine x_fconst2 (v := 1073741824) C dX5_shareBits_30 (by decide +kernel) ?_
      refine x_fmul (v := 1070386381) C dX5_shareBits_31 (by decide +kernel) (by decide +kernel) ?_
      refine x_fstore_n (lv1 := [(2, .float 1070386381), (3, .int 127), (0, .int 4), (1, .int 5)]) C dX5_shareBits_32 (by decide) rfl ?_
      refine x_iinc (j := 1) (v := 126) (lv1 := [(3, .int 126), (2, .float 1070386381), (0, .int 4), (1, .int 5)]) C dX5_shareBits_33 rfl (by decide) (by decide) rfl ?_
      refine x_goto (tgt := 19) C dX5_shareBits_36 (by decide) ?_
      refine x_fload_n C dX5_shareBits_19 1 rfl ?_
      refine x_fconst1 (v := 1065353216) C dX5_shareBits_20 (by decide +kernel) ?_
      refine x_fcmp (v := 1) C dX5_shareBits_21 (by decide +kernel) ?_
      refine x_if_ge (tgt := 39) C dX5_shareBits_22 (by decide) (fun c_22_2 => ?_) (fun c_22_2 => absurd c_22_2 (by decide))
      refine x_fload_n C dX5_shareBits_39 1 rfl ?_
      refine x_ldcf (v := 1258291200) C kw_con_X5_203 dX5_shareBits_40 ?_
      refine x_fmul (v := 1263324365) C dX5_shareBits_42 (by decide +kernel) (by decide +kernel) ?_
      refine x_f2i (v := 13421773) C dX5_shareBits_43 (by decide +kernel) ?_
      refine x_ldc (v := 8388608) C kw_con_X5_204 dX5_shareBits_44 ?_
      refine x_isub C dX5_shareBits_46 ?_
      refine Wd.cast (w1 := []) (lv1 := [(3, .int 126), (2, .float 1070386381), (0, .int 4), (1, .int 5)]) (st1 := [.int 5033165]) rfl rfl rfl ?_
      refine x_istore (lv1 := [(4, .int 5033165), (3, .int 126), (2, .float 1070386381), (0, .int 4), (1, .int 5)]) C dX5_shareBits_47 (by decide) rfl ?_
      refine x_iload_n C dX5_shareBits_49 1 rfl ?_
      refine x_bipush (v := 23) C dX5_shareBits_50 (by decide) ?_
      refine x_ishl C dX5_shareBits_52 ?_
      refine x_iload C dX5_shareBits_53 0 rfl ?_
      refine x_ior C dX5_shareBits_55 ?_
      exact x_iret C hr hlocks rfl () (by decide +kernel) (gEq.rf _) dX5_shareBits_56
    · refine Wd.cast (w1 := []) (lv1 := [(0, .int 5), (1, .int 5)]) rfl rfl rfl ?_
      refine x_iload_n C dX5_shareBits_0 0 rfl ?_
      refine x_if_le (tgt := 8) C dX5_shareBits_1 (by decide) (fun c_1 => absurd c_1 (by decide)) (fun c_1 => ?_)
      refine x_iload_n C dX5_shareBits_4 1 rfl ?_
      refine x_if_gt (tgt := 10) C dX5_shareBits_5 (by decide) (fun c_5 => ?_) (fun c_5 => absurd c_5 (by decide))
      refine x_iload_n C dX5_shareBits_10 0 rfl ?_
      refine x_i2f (v := 1084227584) C dX5_shareBits_11 (by decide +kernel) ?_
      refine x_iload_n C dX5_shareBits_12 1 rfl ?_
      refine x_i2f (v := 1084227584) C dX5_shareBits_13 (by decide +kernel) ?_
      refine x_fdiv (v := 1065353216) C dX5_shareBits_14 (by decide +kernel) (by decide +kernel) ?_
      refine x_fstore_n (lv1 := [(2, .float 1065353216), (0, .int 5), (1, .int 5)]) C dX5_shareBits_15 (by decide) rfl ?_
      refine x_bipush (v := 127) C dX5_shareBits_16 (by decide) ?_
      refine x_istore_n (lv1 := [(3, .int 127), (2, .float 1065353216), (0, .int 5), (1, .int 5)]) C dX5_shareBits_18 (by decide) rfl ?_
      refine x_fload_n C dX5_shareBits_19 1 rfl ?_
      refine x_fconst1 (v := 1065353216) C dX5_shareBits_20 (by decide +kernel) ?_
      refine x_fcmp (v := 0) C dX5_shareBits_21 (by decide +kernel) ?_
      refine x_if_ge (tgt := 39) C dX5_shareBits_22 (by decide) (fun c_22 => ?_) (fun c_22 => absurd c_22 (by decide))
      refine x_fload_n C dX5_shareBits_39 1 rfl ?_
      refine x_ldcf (v := 1258291200) C kw_con_X5_203 dX5_shareBits_40 ?_
      refine x_fmul (v := 1258291200) C dX5_shareBits_42 (by decide +kernel) (by decide +kernel) ?_
      refine x_f2i (v := 8388608) C dX5_shareBits_43 (by decide +kernel) ?_
      refine x_ldc (v := 8388608) C kw_con_X5_204 dX5_shareBits_44 ?_
      refine x_isub C dX5_shareBits_46 ?_
      refine Wd.cast (w1 := []) (lv1 := [(3, .int 127), (2, .float 1065353216), (0, .int 5), (1, .int 5)]) (st1 := [.int 0]) rfl rfl rfl ?_
      refine x_istore (lv1 := [(4, .int 0), (3, .int 127), (2, .float 1065353216), (0, .int 5), (1, .int 5)]) C dX5_shareBits_47 (by decide) rfl ?_
      refine x_iload_n C dX5_shareBits_49 1 rfl ?_
      refine x_bipush (v := 23) C dX5_shareBits_50 (by decide) ?_
      refine x_ishl C dX5_shareBits_52 ?_
      refine x_iload C dX5_shareBits_53 0 rfl ?_
      refine x_ior C dX5_shareBits_55 ?_
      exact x_iret C hr hlocks rfl () (by decide +kernel) (gEq.rf _) dX5_shareBits_56
  · rcases (show mm = 0 ∨ mm = 1 ∨ mm = 2 ∨ mm = 3 ∨ mm = 4 ∨ mm = 5 ∨ mm = 6 by omega) with rfl | rfl | rfl | rfl | rfl | rfl | rfl
    · refine Wd.cast (w1 := []) (lv1 := [(0, .int 0), (1, .int 6)]) rfl rfl rfl ?_
      refine x_iload_n C dX5_shareBits_0 0 rfl ?_
      refine x_if_le (tgt := 8) C dX5_shareBits_1 (by decide) (fun c_1 => ?_) (fun c_1 => absurd c_1 (by decide))
      refine x_iconst (v := 0) C dX5_shareBits_8 (by decide) ?_
      exact x_iret C hr hlocks rfl () (by decide +kernel) (gEq.rf _) dX5_shareBits_9
    · refine Wd.cast (w1 := []) (lv1 := [(0, .int 1), (1, .int 6)]) rfl rfl rfl ?_
      refine x_iload_n C dX5_shareBits_0 0 rfl ?_
      refine x_if_le (tgt := 8) C dX5_shareBits_1 (by decide) (fun c_1 => absurd c_1 (by decide)) (fun c_1 => ?_)
      refine x_iload_n C dX5_shareBits_4 1 rfl ?_
      refine x_if_gt (tgt := 10) C dX5_shareBits_5 (by decide) (fun c_5 => ?_) (fun c_5 => absurd c_5 (by decide))
      refine x_iload_n C dX5_shareBits_10 0 rfl ?_
      refine x_i2f (v := 1065353216) C dX5_shareBits_11 (by decide +kernel) ?_
      refine x_iload_n C dX5_shareBits_12 1 rfl ?_
      refine x_i2f (v := 1086324736) C dX5_shareBits_13 (by decide +kernel) ?_
      refine x_fdiv (v := 1042983595) C dX5_shareBits_14 (by decide +kernel) (by decide +kernel) ?_
      refine x_fstore_n (lv1 := [(2, .float 1042983595), (0, .int 1), (1, .int 6)]) C dX5_shareBits_15 (by decide) rfl ?_
      refine x_bipush (v := 127) C dX5_shareBits_16 (by decide) ?_
      refine x_istore_n (lv1 := [(3, .int 127), (2, .float 1042983595), (0, .int 1), (1, .int 6)]) C dX5_shareBits_18 (by decide) rfl ?_
      refine x_fload_n C dX5_shareBits_19 1 rfl ?_
      refine x_fconst1 (v := 1065353216) C dX5_shareBits_20 (by decide +kernel) ?_
      refine x_fcmp (v := (-1)) C dX5_shareBits_21 (by decide +kernel) ?_
      refine x_if_ge (tgt := 39) C dX5_shareBits_22 (by decide) (fun c_22 => absurd c_22 (by decide)) (fun c_22 => ?_)
      refine x_iload_n C dX5_shareBits_25 0 rfl ?_
      refine x_if_le (tgt := 39) C dX5_shareBits_26 (by decide) (fun c_26 => absurd c_26 (by decide)) (fun c_26 => ?_)
      refine x_fload_n C dX5_shareBits_29 1 rfl ?_
      refine x_fconst2 (v := 1073741824) C dX5_shareBits_30 (by decide +kernel) ?_
      refine x_fmul (v := 1051372203) C dX5_shareBits_31 (by decide +kernel) (by decide +kernel) ?_
      refine x_fstore_n (lv1 := [(2, .float 1051372203), (3, .int 127), (0, .int 1), (1, .int 6)]) C dX5_shareBits_32 (by decide) rfl ?_
      refine x_iinc (j := 1) (v := 126) (lv1 := [(3, .int 126), (2, .float 1051372203), (0, .int 1), (1, .int 6)]) C dX5_shareBits_33 rfl (by decide) (by decide) rfl ?_
      refine x_goto (tgt := 19) C dX5_shareBits_36 (by decide) ?_
      refine x_fload_n C dX5_shareBits_19 1 rfl ?_
      refine x_fconst1 (v := 1065353216) C dX5_shareBits_20 (by decide +kernel) ?_
      refine x_fcmp (v := (-1)) C dX5_shareBits_21 (by decide +kernel) ?_
      refine x_if_ge (tgt := 39) C dX5_shareBits_22 (by decide) (fun c_22_2 => absurd c_22_2 (by decide)) (fun c_22_2 => ?_)
      refine x_iload_n C dX5_shareBits_25 0 rfl ?_
      refine x_if_le (tgt := 39) C dX5_shareBits_26 (by decide) (fun c_26_2 => absurd c_26_2 (by decide)) (fun c_26_2 => ?_)
      refine x_fload_n C dX5_shareBits_29 1 rfl ?_
      refine x_fconst2 (v := 1073741824) C dX5_shareBits_30 (by decide +kernel) ?_
      refine x_fmul (v := 1059760811) C dX5_shareBits_31 (by decide +kernel) (by decide +kernel) ?_
      refine x_fstore_n (lv1 := [(2, .float 1059760811), (3, .int 126), (0, .int 1), (1, .int 6)]) C dX5_shareBits_32 (by decide) rfl ?_
      refine x_iinc (j := 1) (v := 125) (lv1 := [(3, .int 125), (2, .float 1059760811), (0, .int 1), (1, .int 6)]) C dX5_shareBits_33 rfl (by decide) (by decide) rfl ?_
      refine x_goto (tgt := 19) C dX5_shareBits_36 (by decide) ?_
      refine x_fload_n C dX5_shareBits_19 1 rfl ?_
      refine x_fconst1 (v := 1065353216) C dX5_shareBits_20 (by decide +kernel) ?_
      refine x_fcmp (v := (-1)) C dX5_shareBits_21 (by decide +kernel) ?_
      refine x_if_ge (tgt := 39) C dX5_shareBits_22 (by decide) (fun c_22_3 => absurd c_22_3 (by decide)) (fun c_22_3 => ?_)
      refine x_iload_n C dX5_shareBits_25 0 rfl ?_
      refine x_if_le (tgt := 39) C dX5_shareBits_26 (by decide) (fun c_26_3 => absurd c_26_3 (by decide)) (fun c_26_3 => ?_)
      refine x_fload_n C dX5_shareBits_29 1 rfl ?_
      refine x_fconst2 (v := 1073741824) C dX5_shareBits_30 (by decide +kernel) ?_
      refine x_fmul (v := 1068149419) C dX5_shareBits_31 (by decide +kernel) (by decide +kernel) ?_
      refine x_fstore_n (lv1 := [(2, .float 1068149419), (3, .int 125), (0, .int 1), (1, .int 6)]) C dX5_shareBits_32 (by decide) rfl ?_
      refine x_iinc (j := 1) (v := 124) (lv1 := [(3, .int 124), (2, .float 1068149419), (0, .int 1), (1, .int 6)]) C dX5_shareBits_33 rfl (by decide) (by decide) rfl ?_
      refine x_goto (tgt := 19) C dX5_shareBits_36 (by decide) ?_
      refine x_fload_n C dX5_shareBits_19 1 rfl ?_
      refine x_fconst1 (v := 1065353216) C dX5_shareBits_20 (by decide +kernel) ?_
      refine x_fcmp (v := 1) C dX5_shareBits_21 (by decide +kernel) ?_
      refine x_if_ge (tgt := 39) C dX5_shareBits_22 (by decide) (fun c_22_4 => ?_) (fun c_22_4 => absurd c_22_4 (by decide))
      refine x_fload_n C dX5_shareBits_39 1 rfl ?_
      refine x_ldcf (v := 1258291200) C kw_con_X5_203 dX5_shareBits_40 ?_
      refine x_fmul (v := 1261087403) C dX5_shareBits_42 (by decide +kernel) (by decide +kernel) ?_
      refine x_f2i (v := 11184811) C dX5_shareBits_43 (by decide +kernel) ?_
      refine x_ldc (v := 8388608) C kw_con_X5_204 dX5_shareBits_44 ?_
      refine x_isub C dX5_shareBits_46 ?_
      refine Wd.cast (w1 := []) (lv1 := [(3, .int 124), (2, .float 1068149419), (0, .int 1), (1, .int 6)]) (st1 := [.int 2796203]) rfl rfl rfl ?_
      refine x_istore (lv1 := [(4, .int 2796203), (3, .int 124), (2, .float 1068149419), (0, .int 1), (1, .int 6)]) C dX5_shareBits_47 (by decide) rfl ?_
      refine x_iload_n C dX5_shareBits_49 1 rfl ?_
      refine x_bipush (v := 23) C dX5_shareBits_50 (by decide) ?_
      refine x_ishl C dX5_shareBits_52 ?_
      refine x_iload C dX5_shareBits_53 0 rfl ?_
      refine x_ior C dX5_shareBits_55 ?_
      exact x_iret C hr hlocks rfl () (by decide +kernel) (gEq.rf _) dX5_shareBits_56
    · refine Wd.cast (w1 := []) (lv1 := [(0, .int 2), (1, .int 6)]) rfl rfl rfl ?_
      refine x_iload_n C dX5_shareBits_0 0 rfl ?_
      refine x_if_le (tgt := 8) C dX5_shareBits_1 (by decide) (fun c_1 => absurd c_1 (by decide)) (fun c_1 => ?_)
      refine x_iload_n C dX5_shareBits_4 1 rfl ?_
      refine x_if_gt (tgt := 10) C dX5_shareBits_5 (by decide) (fun c_5 => ?_) (fun c_5 => absurd c_5 (by decide))
      refine x_iload_n C dX5_shareBits_10 0 rfl ?_
      refine x_i2f (v := 1073741824) C dX5_shareBits_11 (by decide +kernel) ?_
      refine x_iload_n C dX5_shareBits_12 1 rfl ?_
      refine x_i2f (v := 1086324736) C dX5_shareBits_13 (by decide +kernel) ?_
      refine x_fdiv (v := 1051372203) C dX5_shareBits_14 (by decide +kernel) (by decide +kernel) ?_
      refine x_fstore_n (lv1 := [(2, .float 1051372203), (0, .int 2), (1, .int 6)]) C dX5_shareBits_15 (by decide) rfl ?_
      refine x_bipush (v := 127) C dX5_shareBits_16 (by decide) ?_
      refine x_istore_n (lv1 := [(3, .int 127), (2, .float 1051372203), (0, .int 2), (1, .int 6)]) C dX5_shareBits_18 (by decide) rfl ?_
      refine x_fload_n C dX5_shareBits_19 1 rfl ?_
      refine x_fconst1 (v := 1065353216) C dX5_shareBits_20 (by decide +kernel) ?_
      refine x_fcmp (v := (-1)) C dX5_shareBits_21 (by decide +kernel) ?_
      refine x_if_ge (tgt := 39) C dX5_shareBits_22 (by decide) (fun c_22 => absurd c_22 (by decide)) (fun c_22 => ?_)
      refine x_iload_n C dX5_shareBits_25 0 rfl ?_
      refine x_if_le (tgt := 39) C dX5_shareBits_26 (by decide) (fun c_26 => absurd c_26 (by decide)) (fun c_26 => ?_)
      refine x_fload_n C dX5_shareBits_29 1 rfl ?_
      refine x_fconst2 (v := 1073741824) C dX5_shareBits_30 (by decide +kernel) ?_
      refine x_fmul (v := 1059760811) C dX5_shareBits_31 (by decide +kernel) (by decide +kernel) ?_
      refine x_fstore_n (lv1 := [(2, .float 1059760811), (3, .int 127), (0, .int 2), (1, .int 6)]) C dX5_shareBits_32 (by decide) rfl ?_
      refine x_iinc (j := 1) (v := 126) (lv1 := [(3, .int 126), (2, .float 1059760811), (0, .int 2), (1, .int 6)]) C dX5_shareBits_33 rfl (by decide) (by decide) rfl ?_
      refine x_goto (tgt := 19) C dX5_shareBits_36 (by decide) ?_
      refine x_fload_n C dX5_shareBits_19 1 rfl ?_
      refine x_fconst1 (v := 1065353216) C dX5_shareBits_20 (by decide +kernel) ?_
      refine x_fcmp (v := (-1)) C dX5_shareBits_21 (by decide +kernel) ?_
      refine x_if_ge (tgt := 39) C dX5_shareBits_22 (by decide) (fun c_22_2 => absurd c_22_2 (by decide)) (fun c_22_2 => ?_)
      refine x_iload_n C dX5_shareBits_25 0 rfl ?_
      refine x_if_le (tgt := 39) C dX5_shareBits_26 (by decide) (fun c_26_2 => absurd c_26_2 (by decide)) (fun c_26_2 => ?_)
      refine x_fload_n C dX5_shareBits_29 1 rfl ?_
      refine x_fconst2 (v := 1073741824) C dX5_shareBits_30 (by decide +kernel) ?_
      refine x_fmul (v := 1068149419) C dX5_shareBits_31 (by decide +kernel) (by decide +kernel) ?_
      refine x_fstore_n (lv1 := [(2, .float 1068149419), (3, .int 126), (0, .int 2), (1, .int 6)]) C dX5_shareBits_32 (by decide) rfl ?_
      refine x_iinc (j := 1) (v := 125) (lv1 := [(3, .int 125), (2, .float 1068149419), (0, .int 2), (1, .int 6)]) C dX5_shareBits_33 rfl (by decide) (by decide) rfl ?_
      refine x_goto (tgt := 19) C dX5_shareBits_36 (by decide) ?_
      refine x_fload_n C dX5_shareBits_19 1 rfl ?_
      refine x_fconst1 (v := 1065353216) C dX5_shareBits_20 (by decide +kernel) ?_
      refine x_fcmp (v := 1) C dX5_shareBits_21 (by decide +kernel) ?_
      refine x_if_ge (tgt := 39) C dX5_shareBits_22 (by decide) (fun c_22_3 => ?_) (fun c_22_3 => absurd c_22_3 (by decide))
      refine x_fload_n C dX5_shareBits_39 1 rfl ?_
      refine x_ldcf (v := 1258291200) C kw_con_X5_203 dX5_shareBits_40 ?_
      refine x_fmul (v := 1261087403) C dX5_shareBits_42 (by decide +kernel) (by decide +kernel) ?_
      refine x_f2i (v := 11184811) C dX5_shareBits_43 (by decide +kernel) ?_
      refine x_ldc (v := 8388608) C kw_con_X5_204 dX5_shareBits_44 ?_
      refine x_isub C dX5_shareBits_46 ?_
      refine Wd.cast (w1 := []) (lv1 := [(3, .int 125), (2, .float 1068149419), (0, .int 2), (1, .int 6)]) (st1 := [.int 2796203]) rfl rfl rfl ?_
      refine x_istore (lv1 := [(4, .int 2796203), (3, .int 125), (2, .float 1068149419), (0, .int 2), (1, .int 6)]) C dX5_shareBits_47 (by decide) rfl ?_
      refine x_iload_n C dX5_shareBits_49 1 rfl ?_
      refine x_bipush (v := 23) C dX5_shareBits_50 (by decide) ?_
      refine x_ishl C dX5_shareBits_52 ?_
      refine x_iload C dX5_shareBits_53 0 rfl ?_
      refine x_ior C dX5_shareBits_55 ?_
      exact x_iret C hr hlocks rfl () (by decide +kernel) (gEq.rf _) dX5_shareBits_56
    · refine Wd.cast (w1 := []) (lv1 := [(0, .int 3), (1, .int 6)]) rfl rfl rfl ?_
      refine x_iload_n C dX5_shareBits_0 0 rfl ?_
      refine x_if_le (tgt := 8) C dX5_shareBits_1 (by decide) (fun c_1 => absurd c_1 (by decide)) (fun c_1 => ?_)
      refine x_iload_n C dX5_shareBits_4 1 rfl ?_
      refine x_if_gt (tgt := 10) C dX5_shareBits_5 (by decide) (fun c_5 => ?_) (fun c_5 => absurd c_5 (by decide))
      refine x_iload_n C dX5_shareBits_10 0 rfl ?_
      refine x_i2f (v := 1077936128) C dX5_shareBits_11 (by decide +kernel) ?_
      refine x_iload_n C dX5_shareBits_12 1 rfl ?_
      refine x_i2f (v := 1086324736) C dX5_shareBits_13 (by decide +kernel) ?_
      refine x_fdiv (v := 1056964608) C dX5_shareBits_14 (by decide +kernel) (by decide +kernel) ?_
      refine x_fstore_n (lv1 := [(2, .float 1056964608), (0, .int 3), (1, .int 6)]) C dX5_shareBits_15 (by decide) rfl ?_
      refine x_bipush (v := 127) C dX5_shareBits_16 (by decide) ?_
      refine x_istore_n (lv1 := [(3, .int 127), (2, .float 1056964608), (0, .int 3), (1, .int 6)]) C dX5_shareBits_18 (by decide) rfl ?_
      refine x_fload_n C dX5_shareBits_19 1 rfl ?_
      refine x_fconst1 (v := 1065353216) C dX5_shareBits_20 (by decide +kernel) ?_
      refine x_fcmp (v := (-1)) C dX5_shareBits_21 (by decide +kernel) ?_
      refine x_if_ge (tgt := 39) C dX5_shareBits_22 (by decide) (fun c_22 => absurd c_22 (by decide)) (fun c_22 => ?_)
      refine x_iload_n C dX5_shareBits_25 0 rfl ?_
      refine x_if_le (tgt := 39) C dX5_shareBits_26 (by decide) (fun c_26 => absurd c_26 (by decide)) (fun c_26 => ?_)
      refine x_fload_n C dX5_shareBits_29 1 rfl ?_
      refine x_fconst2 (v := 1073741824) C dX5_shareBits_30 (by decide +kernel) ?_
      refine x_fmul (v := 1065353216) C dX5_shareBits_31 (by decide +kernel) (by decide +kernel) ?_
      refine x_fstore_n (lv1 := [(2, .float 1065353216), (3, .int 127), (0, .int 3), (1, .int 6)]) C dX5_shareBits_32 (by decide) rfl ?_
      refine x_iinc (j := 1) (v := 126) (lv1 := [(3, .int 126), (2, .float 1065353216), (0, .int 3), (1, .int 6)]) C dX5_shareBits_33 rfl (by decide) (by decide) rfl ?_
      refine x_goto (tgt := 19) C dX5_shareBits_36 (by decide) ?_
      refine x_fload_n C dX5_shareBits_19 1 rfl ?_
      refine x_fconst1 (v := 1065353216) C dX5_shareBits_20 (by decide +kernel) ?_
      refine x_fcmp (v := 0) C dX5_shareBits_21 (by decide +kernel) ?_
      refine x_if_ge (tgt := 39) C dX5_shareBits_22 (by decide) (fun c_22_2 => ?_) (fun c_22_2 => absurd c_22_2 (by decide))
      refine x_fload_n C dX5_shareBits_39 1 rfl ?_
      refine x_ldcf (v := 1258291200) C kw_con_X5_203 dX5_shareBits_40 ?_
      refine x_fmul (v := 1258291200) C dX5_shareBits_42 (by decide +kernel) (by decide +kernel) ?_
      refine x_f2i (v := 8388608) C dX5_shareBits_43 (by decide +kernel) ?_
      refine x_ldc (v := 8388608) C kw_con_X5_204 dX5_shareBits_44 ?_
      refine x_isub C dX5_shareBits_46 ?_
      refine Wd.cast (w1 := []) (lv1 := [(3, .int 126), (2, .float 1065353216), (0, .int 3), (1, .int 6)]) (st1 := [.int 0]) rfl rfl rfl ?_
      refine x_istore (lv1 := [(4, .int 0), (3, .int 126), (2, .float 1065353216), (0, .int 3), (1, .int 6)]) C dX5_shareBits_47 (by decide) rfl ?_
      refine x_iload_n C dX5_shareBits_49 1 rfl ?_
      refine x_bipush (v := 23) C dX5_shareBits_50 (by decide) ?_
      refine x_ishl C dX5_shareBits_52 ?_
      refine x_iload C dX5_shareBits_53 0 rfl ?_
      refine x_ior C dX5_shareBits_55 ?_
      exact x_iret C hr hlocks rfl () (by decide +kernel) (gEq.rf _) dX5_shareBits_56
    · refine Wd.cast (w1 := []) (lv1 := [(0, .int 4), (1, .int 6)]) rfl rfl rfl ?_
      refine x_iload_n C dX5_shareBits_0 0 rfl ?_
      refine x_if_le (tgt := 8) C dX5_shareBits_1 (by decide) (fun c_1 => absurd c_1 (by decide)) (fun c_1 => ?_)
      refine x_iload_n C dX5_shareBits_4 1 rfl ?_
      refine x_if_gt (tgt := 10) C dX5_shareBits_5 (by decide) (fun c_5 => ?_) (fun c_5 => absurd c_5 (by decide))
      refine x_iload_n C dX5_shareBits_10 0 rfl ?_
      refine x_i2f (v := 1082130432) C dX5_shareBits_11 (by decide +kernel) ?_
      refine x_iload_n C dX5_shareBits_12 1 rfl ?_
      refine x_i2f (v := 1086324736) C dX5_shareBits_13 (by decide +kernel) ?_
      refine x_fdiv (v := 1059760811) C dX5_shareBits_14 (by decide +kernel) (by decide +kernel) ?_
      refine x_fstore_n (lv1 := [(2, .float 1059760811), (0, .int 4), (1, .int 6)]) C dX5_shareBits_15 (by decide) rfl ?_
      refine x_bipush (v := 127) C dX5_shareBits_16 (by decide) ?_
      refine x_istore_n (lv1 := [(3, .int 127), (2, .float 1059760811), (0, .int 4), (1, .int 6)]) C dX5_shareBits_18 (by decide) rfl ?_
      refine x_fload_n C dX5_shareBits_19 1 rfl ?_
      refine x_fconst1 (v := 1065353216) C dX5_shareBits_20 (by decide +kernel) ?_
      refine x_fcmp (v := (-1)) C dX5_shareBits_21 (by decide +kernel) ?_
      refine x_if_ge (tgt := 39) C dX5_shareBits_22 (by decide) (fun c_22 => absurd c_22 (by decide)) (fun c_22 => ?_)
      refine x_iload_n C dX5_shareBits_25 0 rfl ?_
      refine x_if_le (tgt := 39) C dX5_shareBits_26 (by decide) (fun c_26 => absurd c_26 (by decide)) (fun c_26 => ?_)
      refine x_fload_n C dX5_shareBits_29 1 rfl ?_
      refine x_fconst2 (v := 1073741824) C dX5_shareBits_30 (by decide +kernel) ?_
      refine x_fmul (v := 1068149419) C dX5_shareBits_31 (by decide +kernel) (by decide +kernel) ?_
      refine x_fstore_n (lv1 := [(2, .float 1068149419), (3, .int 127), (0, .int 4), (1, .int 6)]) C dX5_shareBits_32 (by decide) rfl ?_
      refine x_iinc (j := 1) (v := 126) (lv1 := [(3, .int 126), (2, .float 1068149419), (0, .int 4), (1, .int 6)]) C dX5_shareBits_33 rfl (by decide) (by decide) rfl ?_
      refine x_goto (tgt := 19) C dX5_shareBits_36 (by decide) ?_
      refine x_fload_n C dX5_shareBits_19 1 rfl ?_
      refine x_fconst1 (v := 1065353216) C dX5_shareBits_20 (by decide +kernel) ?_
      refine x_fcmp (v := 1) C dX5_shareBits_21 (by decide +kernel) ?_
      refine x_if_ge (tgt := 39) C dX5_shareBits_22 (by decide) (fun c_22_2 => ?_) (fun c_22_2 => absurd c_22_2 (by decide))
      refine x_fload_n C dX5_shareBits_39 1 rfl ?_
      refine x_ldcf (v := 1258291200) C kw_con_X5_203 dX5_shareBits_40 ?_
      refine x_fmul (v := 1261087403) C dX5_shareBits_42 (by decide +kernel) (by decide +kernel) ?_
      refine x_f2i (v := 11184811) C dX5_shareBits_43 (by decide +kernel) ?_
      refine x_ldc (v := 8388608) C kw_con_X5_204 dX5_shareBits_44 ?_
      refine x_isub C dX5_shareBits_46 ?_
      refine Wd.cast (w1 := []) (lv1 := [(3, .int 126), (2, .float 1068149419), (0, .int 4), (1, .int 6)]) (st1 := [.int 2796203]) rfl rfl rfl ?_
      refine x_istore (lv1 := [(4, .int 2796203), (3, .int 126), (2, .float 1068149419), (0, .int 4), (1, .int 6)]) C dX5_shareBits_47 (by decide) rfl ?_
      refine x_iload_n C dX5_shareBits_49 1 rfl ?_
      refine x_bipush (v := 23) C dX5_shareBits_50 (by decide) ?_
      refine x_ishl C dX5_shareBits_52 ?_
      refine x_iload C dX5_shareBits_53 0 rfl ?_
      refine x_ior C dX5_shareBits_55 ?_
      exact x_iret C hr hlocks rfl () (by decide +kernel) (gEq.rf _) dX5_shareBits_56
    · refine Wd.cast (w1 := []) (lv1 := [(0, .int 5), (1, .int 6)]) rfl rfl rfl ?_
      refine x_iload_n C dX5_shareBits_0 0 rfl ?_
      refine x_if_le (tgt := 8) C dX5_shareBits_1 (by decide) (fun c_1 => absurd c_1 (by decide)) (fun c_1 => ?_)
      refine x_iload_n C dX5_shareBits_4 1 rfl ?_
      refine x_if_gt (tgt := 10) C dX5_shareBits_5 (by decide) (fun c_5 => ?_) (fun c_5 => absurd c_5 (by decide))
      refine x_iload_n C dX5_shareBits_10 0 rfl ?_
      refine x_i2f (v := 1084227584) C dX5_shareBits_11 (by decide +kernel) ?_
      refine x_iload_n C dX5_shareBits_12 1 rfl ?_
      refine x_i2f (v := 1086324736) C dX5_shareBits_13 (by decide +kernel) ?_
      refine x_fdiv (v := 1062557013) C dX5_shareBits_14 (by decide +kernel) (by decide +kernel) ?_
      refine x_fstore_n (lv1 := [(2, .float 1062557013), (0, .int 5), (1, .int 6)]) C dX5_shareBits_15 (by decide) rfl ?_
      refine x_bipush (v := 127) C dX5_shareBits_16 (by decide) ?_
      refine x_istore_n (lv1 := [(3, .int 127), (2, .float 1062557013), (0, .int 5), (1, .int 6)]) C dX5_shareBits_18 (by decide) rfl ?_
      refine x_fload_n C dX5_shareBits_19 1 rfl ?_
      refine x_fconst1 (v := 1065353216) C dX5_shareBits_20 (by decide +kernel) ?_
      refine x_fcmp (v := (-1)) C dX5_shareBits_21 (by decide +kernel) ?_
      refine x_if_ge (tgt := 39) C dX5_shareBits_22 (by decide) (fun c_22 => absurd c_22 (by decide)) (fun c_22 => ?_)
      refine x_iload_n C dX5_shareBits_25 0 rfl ?_
      refine x_if_le (tgt := 39) C dX5_shareBits_26 (by decide) (fun c_26 => absurd c_26 (by decide)) (fun c_26 => ?_)
      refine x_fload_n C dX5_shareBits_29 1 rfl ?_
      refine x_fconst2 (v := 1073741824) C dX5_shareBits_30 (by decide +kernel) ?_
      refine x_fmul (v := 1070945621) C dX5_shareBits_31 (by decide +kernel) (by decide +kernel) ?_
      refine x_fstore_n (lv1 := [(2, .float 1070945621), (3, .int 127), (0, .int 5), (1, .int 6)]) C dX5_shareBits_32 (by decide) rfl ?_
      refine x_iinc (j := 1) (v := 126) (lv1 := [(3, .int 126), (2, .float 1070945621), (0, .int 5), (1, .int 6)]) C dX5_shareBits_33 rfl (by decide) (by decide) rfl ?_
      refine x_goto (tgt := 19) C dX5_shareBits_36 (by decide) ?_
      refine x_fload_n C dX5_shareBits_19 1 rfl ?_
      refine x_fconst1 (v := 1065353216) C dX5_shareBits_20 (by decide +kernel) ?_
      refine x_fcmp (v := 1) C dX5_shareBits_21 (by decide +kernel) ?_
      refine x_if_ge (tgt := 39) C dX5_shareBits_22 (by decide) (fun c_22_2 => ?_) (fun c_22_2 => absurd c_22_2 (by decide))
      refine x_fload_n C dX5_shareBits_39 1 rfl ?_
      refine x_ldcf (v := 1258291200) C kw_con_X5_203 dX5_shareBits_40 ?_
      refine x_fmul (v := 1263883605) C dX5_shareBits_42 (by decide +kernel) (by decide +kernel) ?_
      refine x_f2i (v := 13981013) C dX5_shareBits_43 (by decide +kernel) ?_
      refine x_ldc (v := 8388608) C kw_con_X5_204 dX5_shareBits_44 ?_
      refine x_isub C dX5_shareBits_46 ?_
      refine Wd.cast (w1 := []) (lv1 := [(3, .int 126), (2, .float 1070945621), (0, .int 5), (1, .int 6)]) (st1 := [.int 5592405]) rfl rfl rfl ?_
      refine x_istore (lv1 := [(4, .int 5592405), (3, .int 126), (2, .float 1070945621), (0, .int 5), (1, .int 6)]) C dX5_shareBits_47 (by decide) rfl ?_
      refine x_iload_n C dX5_shareBits_49 1 rfl ?_
      refine x_bipush (v := 23) C dX5_shareBits_50 (by decide) ?_
      refine x_ishl C dX5_shareBits_52 ?_
      refine x_iload C dX5_shareBits_53 0 rfl ?_
      refine x_ior C dX5_shareBits_55 ?_
      exact x_iret C hr hlocks rfl () (by decide +kernel) (gEq.rf _) dX5_shareBits_56
    · refine Wd.cast (w1 := []) (lv1 := [(0, .int 6), (1, .int 6)]) rfl rfl rfl ?_
      refine x_iload_n C dX5_shareBits_0 0 rfl ?_
      refine x_if_le (tgt := 8) C dX5_shareBits_1 (by decide) (fun c_1 => absurd c_1 (by decide)) (fun c_1 => ?_)
      refine x_iload_n C dX5_shareBits_4 1 rfl ?_
      refine x_if_gt (tgt := 10) C dX5_shareBits_5 (by decide) (fun c_5 => ?_) (fun c_5 => absurd c_5 (by decide))
      refine x_iload_n C dX5_shareBits_10 0 rfl ?_
      refine x_i2f (v := 1086324736) C dX5_shareBits_11 (by decide +kernel) ?_
      refine x_iload_n C dX5_shareBits_12 1 rfl ?_
      refine x_i2f (v := 1086324736) C dX5_shareBits_13 (by decide +kernel) ?_
      refine x_fdiv (v := 1065353216) C dX5_shareBits_14 (by decide +kernel) (by decide +kernel) ?_
      refine x_fstore_n (lv1 := [(2, .float 1065353216), (0, .int 6), (1, .int 6)]) C dX5_shareBits_15 (by decide) rfl ?_
      refine x_bipush (v := 127) C dX5_shareBits_16 (by decide) ?_
      refine x_istore_n (lv1 := [(3, .int 127), (2, .float 1065353216), (0, .int 6), (1, .int 6)]) C dX5_shareBits_18 (by decide) rfl ?_
      refine x_fload_n C dX5_shareBits_19 1 rfl ?_
      refine x_fconst1 (v := 1065353216) C dX5_shareBits_20 (by decide +kernel) ?_
      refine x_fcmp (v := 0) C dX5_shareBits_21 (by decide +kernel) ?_
      refine x_if_ge (tgt := 39) C dX5_shareBits_22 (by decide) (fun c_22 => ?_) (fun c_22 => absurd c_22 (by decide))
      refine x_fload_n C dX5_shareBits_39 1 rfl ?_
      refine x_ldcf (v := 1258291200) C kw_con_X5_203 dX5_shareBits_40 ?_
      refine x_fmul (v := 1258291200) C dX5_shareBits_42 (by decide +kernel) (by decide +kernel) ?_
      refine x_f2i (v := 8388608) C dX5_shareBits_43 (by decide +kernel) ?_
      refine x_ldc (v := 8388608) C kw_con_X5_204 dX5_shareBits_44 ?_
      refine x_isub C dX5_shareBits_46 ?_
      refine Wd.cast (w1 := []) (lv1 := [(3, .int 127), (2, .float 1065353216), (0, .int 6), (1, .int 6)]) (st1 := [.int 0]) rfl rfl rfl ?_
      refine x_istore (lv1 := [(4, .int 0), (3, .int 127), (2, .float 1065353216), (0, .int 6), (1, .int 6)]) C dX5_shareBits_47 (by decide) rfl ?_
      refine x_iload_n C dX5_shareBits_49 1 rfl ?_
      refine x_bipush (v := 23) C dX5_shareBits_50 (by decide) ?_
      refine x_ishl C dX5_shareBits_52 ?_
      refine x_iload C dX5_shareBits_53 0 rfl ?_
      refine x_ior C dX5_shareBits_55 ?_
      exact x_iret C hr hlocks rfl () (by decide +kernel) (gEq.rf _) dX5_shareBits_56
  · rcases (show mm = 0 ∨ mm = 1 ∨ mm = 2 ∨ mm = 3 ∨ mm = 4 ∨ mm = 5 ∨ mm = 6 ∨ mm = 7 by omega) with rfl | rfl | rfl | rfl | rfl | rfl | rfl | rfl
    · refine Wd.cast (w1 := []) (lv1 := [(0, .int 0), (1, .int 7)]) rfl rfl rfl ?_
      refine x_iload_n C dX5_shareBits_0 0 rfl ?_
      refine x_if_le (tgt := 8) C dX5_shareBits_1 (by decide) (fun c_1 => ?_) (fun c_1 => absurd c_1 (by decide))
      refine x_iconst (v := 0) C dX5_shareBits_8 (by decide) ?_
      exact x_iret C hr hlocks rfl () (by decide +kernel) (gEq.rf _) dX5_shareBits_9
    · refine Wd.cast (w1 := []) (lv1 := [(0, .int 1), (1, .int 7)]) rfl rfl rfl ?_
      refine x_iload_n C dX5_shareBits_0 0 rfl ?_
      refine x_if_le (tgt := 8) C dX5_shareBits_1 (by decide) (fun c_1 => absurd c_1 (by decide)) (fun c_1 => ?_)
      refine x_iload_n C dX5_shareBits_4 1 rfl ?_
      refine x_if_gt (tgt := 10) C dX5_shareBits_5 (by decide) (fun c_5 => ?_) (fun c_5 => absurd c_5 (by decide))
      refine x_iload_n C dX5_shareBits_10 0 rfl ?_
      refine x_i2f (v := 1065353216) C dX5_shareBits_11 (by decide +kernel) ?_
      refine x_iload_n C dX5_shareBits_12 1 rfl ?_
      refine x_i2f (v := 1088421888) C dX5_shareBits_13 (by decide +kernel) ?_
      refine x_fdiv (v := 1041385765) C dX5_shareBits_14 (by decide +kernel) (by decide +kernel) ?_
      refine x_fstore_n (lv1 := [(2, .float 1041385765), (0, .int 1), (1, .int 7)]) C dX5_shareBits_15 (by decide) rfl ?_
      refine x_bipush (v := 127) C dX5_shareBits_16 (by decide) ?_
      refine x_istore_n (lv1 := [(3, .int 127), (2, .float 1041385765), (0, .int 1), (1, .int 7)]) C dX5_shareBits_18 (by decide) rfl ?_
      refine x_fload_n C dX5_shareBits_19 1 rfl ?_
      refine x_fconst1 (v := 1065353216) C dX5_shareBits_20 (by decide +kernel) ?_
      refine x_fcmp (v := (-1)) C dX5_shareBits_21 (by decide +kernel) ?_
      refine x_if_ge (tgt := 39) C dX5_shareBits_22 (by decide) (fun c_22 => absurd c_22 (by decide)) (fun c_22 => ?_)
      refine x_iload_n C dX5_shareBits_25 0 rfl ?_
      refine x_if_le (tgt := 39) C dX5_shareBits_26 (by decide) (fun c_26 => absurd c_26 (by decide)) (fun c_26 => ?_)
      refine x_fload_n C dX5_shareBits_29 1 rfl ?_
      refine x_fconst2 (v := 1073741824) C dX5_shareBits_30 (by decide +kernel) ?_
      refine x_fmul (v := 1049774373) C dX5_shareBits_31 (by decide +kernel) (by decide +kernel) ?_
      refine x_fstore_n (lv1 := [(2, .float 1049774373), (3, .int 127), (0, .int 1), (1, .int 7)]) C dX5_shareBits_32 (by decide) rfl ?_
      refine x_iinc (j := 1) (v := 126) (lv1 := [(3, .int 126), (2, .float 1049774373), (0, .int 1), (1, .int 7)]) C dX5_shareBits_33 rfl (by decide) (by decide) rfl ?_
      refine x_goto (tgt := 19) C dX5_shareBits_36 (by decide) ?_
      refine x_fload_n C dX5_shareBits_19 1 rfl ?_
      refine x_fconst1 (v := 1065353216) C dX5_shareBits_20 (by decide +kernel) ?_
      refine x_fcmp (v := (-1)) C dX5_shareBits_21 (by decide +kernel) ?_
      refine x_if_ge (tgt := 39) C dX5_shareBits_22 (by decide) (fun c_22_2 => absurd c_22_2 (by decide)) (fun c_22_2 => ?_)
      refine x_iload_n C dX5_shareBits_25 0 rfl ?_
      refine x_if_le (tgt := 39) C dX5_shareBits_26 (by decide) (fun c_26_2 => absurd c_26_2 (by decide)) (fun c_26_2 => ?_)
      refine x_fload_n C dX5_shareBits_29 1 rfl ?_
      refine x_fconst2 (v := 1073741824) C dX5_shareBits_30 (by decide +kernel) ?_
      refine x_fmul (v := 1058162981) C dX5_shareBits_31 (by decide +kernel) (by decide +kernel) ?_
      refine x_fstore_n (lv1 := [(2, .float 1058162981), (3, .int 126), (0, .int 1), (1, .int 7)]) C dX5_shareBits_32 (by decide) rfl ?_
      refine x_iinc (j := 1) (v := 125) (lv1 := [(3, .int 125), (2, .float 1058162981), (0, .int 1), (1, .int 7)]) C dX5_shareBits_33 rfl (by decide) (by decide) rfl ?_
      refine x_goto (tgt := 19) C dX5_shareBits_36 (by decide) ?_
      refine x_fload_n C dX5_shareBits_19 1 rfl ?_
      refine x_fconst1 (v := 1065353216) C dX5_shareBits_20 (by decide +kernel) ?_
      refine x_fcmp (v := (-1)) C dX5_shareBits_21 (by decide +kernel) ?_
      refine x_if_ge (tgt := 39) C dX5_shareBits_22 (by decide) (fun c_22_3 => absurd c_22_3 (by decide)) (fun c_22_3 => ?_)
      refine x_iload_n C dX5_shareBits_25 0 rfl ?_
      refine x_if_le (tgt := 39) C dX5_shareBits_26 (by decide) (fun c_26_3 => absurd c_26_3 (by decide)) (fun c_26_3 => ?_)
      refine x_fload_n C dX5_shareBits_29 1 rfl ?_
      refine x_fconst2 (v := 1073741824) C dX5_shareBits_30 (by decide +kernel) ?_
      refine x_fmul (v := 1066551589) C dX5_shareBits_31 (by decide +kernel) (by decide +kernel) ?_
      refine x_fstore_n (lv1 := [(2, .float 1066551589), (3, .int 125), (0, .int 1), (1, .int 7)]) C dX5_shareBits_32 (by decide) rfl ?_
      refine x_iinc (j := 1) (v := 124) (lv1 := [(3, .int 124), (2, .float 1066551589), (0, .int 1), (1, .int 7)]) C dX5_shareBits_33 rfl (by decide) (by decide) rfl ?_
      refine x_goto (tgt := 19) C dX5_shareBits_36 (by decide) ?_
      refine x_fload_n C dX5_shareBits_19 1 rfl ?_
      refine x_fconst1 (v := 1065353216) C dX5_shareBits_20 (by decide +kernel) ?_
      refine x_fcmp (v := 1) C dX5_shareBits_21 (by decide +kernel) ?_
      refine x_if_ge (tgt := 39) C dX5_shareBits_22 (by decide) (fun c_22_4 => ?_) (fun c_22_4 => absurd c_22_4 (by decide))
      refine x_fload_n C dX5_shareBits_39 1 rfl ?_
      refine x_ldcf (v := 1258291200) C kw_con_X5_203 dX5_shareBits_40 ?_
      refine x_fmul (v := 1259489573) C dX5_shareBits_42 (by decide +kernel) (by decide +kernel) ?_
      refine x_f2i (v := 9586981) C dX5_shareBits_43 (by decide +kernel) ?_
      refine x_ldc (v := 8388608) C kw_con_X5_204 dX5_shareBits_44 ?_
      refine x_isub C dX5_shareBits_46 ?_
      refine Wd.cast (w1 := []) (lv1 := [(3, .int 124), (2, .float 1066551589), (0, .int 1), (1, .int 7)]) (st1 := [.int 1198373]) rfl rfl rfl ?_
      refine x_istore (lv1 := [(4, .int 1198373), (3, .int 124), (2, .float 1066551589), (0, .int 1), (1, .int 7)]) C dX5_shareBits_47 (by decide) rfl ?_
      refine x_iload_n C dX5_shareBits_49 1 rfl ?_
      refine x_bipush (v := 23) C dX5_shareBits_50 (by decide) ?_
      refine x_ishl C dX5_shareBits_52 ?_
      refine x_iload C dX5_shareBits_53 0 rfl ?_
      refine x_ior C dX5_shareBits_55 ?_
      exact x_iret C hr hlocks rfl () (by decide +kernel) (gEq.rf _) dX5_shareBits_56
    · refine Wd.cast (w1 := []) (lv1 := [(0, .int 2), (1, .int 7)]) rfl rfl rfl ?_
      refine x_iload_n C dX5_shareBits_0 0 rfl ?_
      refine x_if_le (tgt := 8) C dX5_shareBits_1 (by decide) (fun c_1 => absurd c_1 (by decide)) (fun c_1 => ?_)
      refine x_iload_n C dX5_shareBits_4 1 rfl ?_
      refine x_if_gt (tgt := 10) C dX5_shareBits_5 (by decide) (fun c_5 => ?_) (fun c_5 => absurd c_5 (by decide))
      refine x_iload_n C dX5_shareBits_10 0 rfl ?_
      refine x_i2f (v := 1073741824) C dX5_shareBits_11 (by decide +kernel) ?_
      refine x_iload_n C dX5_shareBits_12 1 rfl ?_
      refine x_i2f (v := 1088421888) C dX5_shareBits_13 (by decide +kernel) ?_
      refine x_fdiv (v := 1049774373) C dX5_shareBits_14 (by decide +kernel) (by decide +kernel) ?_
      refine x_fstore_n (lv1 := [(2, .float 1049774373), (0, .int 2), (1, .int 7)]) C dX5_shareBits_15 (by decide) rfl ?_
      refine x_bipush (v := 127) C dX5_shareBits_16 (by decide) ?_
      refine x_istore_n (lv1 := [(3, .int 127), (2, .float 1049774373), (0, .int 2), (1, .int 7)]) C dX5_shareBits_18 (by decide) rfl ?_
      refine x_fload_n C dX5_shareBits_19 1 rfl ?_
      refine x_fconst1 (v := 1065353216) C dX5_shareBits_20 (by decide +kernel) ?_
      refine x_fcmp (v := (-1)) C dX5_shareBits_21 (by decide +kernel) ?_
      refine x_if_ge (tgt := 39) C dX5_shareBits_22 (by decide) (fun c_22 => absurd c_22 (by decide)) (fun c_22 => ?_)
      refine x_iload_n C dX5_shareBits_25 0 rfl ?_
      refine x_if_le (tgt := 39) C dX5_shareBits_26 (by decide) (fun c_26 => absurd c_26 (by decide)) (fun c_26 => ?_)
      refine x_fload_n C dX5_shareBits_29 1 rfl ?_
      refine x_fconst2 (v := 1073741824) C dX5_shareBits_30 (by decide +kernel) ?_
      refine x_fmul (v := 1058162981) C dX5_shareBits_31 (by decide +kernel) (by decide +kernel) ?_
      refine x_fstore_n (lv1 := [(2, .float 1058162981), (3, .int 127), (0, .int 2), (1, .int 7)]) C dX5_shareBits_32 (by decide) rfl ?_
      refine x_iinc (j := 1) (v := 126) (lv1 := [(3, .int 126), (2, .float 1058162981), (0, .int 2), (1, .int 7)]) C dX5_shareBits_33 rfl (by decide) (by decide) rfl ?_
      refine x_goto (tgt := 19) C dX5_shareBits_36 (by decide) ?_
      refine x_fload_n C dX5_shareBits_19 1 rfl ?_
      refine x_fconst1 (v := 1065353216) C dX5_shareBits_20 (by decide +kernel) ?_
      refine x_fcmp (v := (-1)) C dX5_shareBits_21 (by decide +kernel) ?_
      refine x_if_ge (tgt := 39) C dX5_shareBits_22 (by decide) (fun c_22_2 => absurd c_22_2 (by decide)) (fun c_22_2 => ?_)
      refine x_iload_n C dX5_shareBits_25 0 rfl ?_
      refine x_if_le (tgt := 39) C dX5_shareBits_26 (by decide) (fun c_26_2 => absurd c_26_2 (by decide)) (fun c_26_2 => ?_)
      refine x_fload_n C dX5_shareBits_29 1 rfl ?_
      refine x_fconst2 (v := 1073741824) C dX5_shareBits_30 (by decide +kernel) ?_
      refine x_fmul (v := 1066551589) C dX5_shareBits_31 (by decide +kernel) (by decide +kernel) ?_
      refine x_fstore_n (lv1 := [(2, .float 1066551589), (3, .int 126), (0, .int 2), (1, .int 7)]) C dX5_shareBits_32 (by decide) rfl ?_
      refine x_iinc (j := 1) (v := 125) (lv1 := [(3, .int 125), (2, .float 1066551589), (0, .int 2), (1, .int 7)]) C dX5_shareBits_33 rfl (by decide) (by decide) rfl ?_
      refine x_goto (tgt := 19) C dX5_shareBits_36 (by decide) ?_
      refine x_fload_n C dX5_shareBits_19 1 rfl ?_
      refine x_fconst1 (v := 1065353216) C dX5_shareBits_20 (by decide +kernel) ?_
      refine x_fcmp (v := 1) C dX5_shareBits_21 (by decide +kernel) ?_
      refine x_if_ge (tgt := 39) C dX5_shareBits_22 (by decide) (fun c_22_3 => ?_) (fun c_22_3 => absurd c_22_3 (by decide))
      refine x_fload_n C dX5_shareBits_39 1 rfl ?_
      refine x_ldcf (v := 1258291200) C kw_con_X5_203 dX5_shareBits_40 ?_
      refine x_fmul (v := 1259489573) C dX5_shareBits_42 (by decide +kernel) (by decide +kernel) ?_
      refine x_f2i (v := 9586981) C dX5_shareBits_43 (by decide +kernel) ?_
      refine x_ldc (v := 8388608) C kw_con_X5_204 dX5_shareBits_44 ?_
      refine x_isub C dX5_shareBits_46 ?_
      refine Wd.cast (w1 := []) (lv1 := [(3, .int 125), (2, .float 1066551589), (0, .int 2), (1, .int 7)]) (st1 := [.int 1198373]) rfl rfl rfl ?_
      refine x_istore (lv1 := [(4, .int 1198373), (3, .int 125), (2, .float 1066551589), (0, .int 2), (1, .int 7)]) C dX5_shareBits_47 (by decide) rfl ?_
      refine x_iload_n C dX5_shareBits_49 1 rfl ?_
      refine x_bipush (v := 23) C dX5_shareBits_50 (by decide) ?_
      refine x_ishl C dX5_shareBits_52 ?_
      refine x_iload C dX5_shareBits_53 0 rfl ?_
      refine x_ior C dX5_shareBits_55 ?_
      exact x_iret C hr hlocks rfl () (by decide +kernel) (gEq.rf _) dX5_shareBits_56
    · refine Wd.cast (w1 := []) (lv1 := [(0, .int 3), (1, .int 7)]) rfl rfl rfl ?_
      refine x_iload_n C dX5_shareBits_0 0 rfl ?_
      refine x_if_le (tgt := 8) C dX5_shareBits_1 (by decide) (fun c_1 => absurd c_1 (by decide)) (fun c_1 => ?_)
      refine x_iload_n C dX5_shareBits_4 1 rfl ?_
      refine x_if_gt (tgt := 10) C dX5_shareBits_5 (by decide) (fun c_5 => ?_) (fun c_5 => absurd c_5 (by decide))
      refine x_iload_n C dX5_shareBits_10 0 rfl ?_
      refine x_i2f (v := 1077936128) C dX5_shareBits_11 (by decide +kernel) ?_
      refine x_iload_n C dX5_shareBits_12 1 rfl ?_
      refine x_i2f (v := 1088421888) C dX5_shareBits_13 (by decide +kernel) ?_
      refine x_fdiv (v := 1054567863) C dX5_shareBits_14 (by decide +kernel) (by decide +kernel) ?_
      refine x_fstore_n (lv1 := [(2, .float 1054567863), (0, .int 3), (1, .int 7)]) C dX5_shareBits_15 (by decide) rfl ?_
      refine x_bipush (v := 127) C dX5_shareBits_16 (by decide) ?_
      refine x_istore_n (lv1 := [(3, .int 127), (2, .float 1054567863), (0, .int 3), (1, .int 7)]) C dX5_shareBits_18 (by decide) rfl ?_
      refine x_fload_n C dX5_shareBits_19 1 rfl ?_
      refine x_fconst1 (v := 1065353216) C dX5_shareBits_20 (by decide +kernel) ?_
      refine x_fcmp (v := (-1)) C dX5_shareBits_21 (by decide +kernel) ?_
      refine x_if_ge (tgt := 39) C dX5_shareBits_22 (by decide) (fun c_22 => absurd c_22 (by decide)) (fun c_22 => ?_)
      refine x_iload_n C dX5_shareBits_25 0 rfl ?_
      refine x_if_le (tgt := 39) C dX5_shareBits_26 (by decide) (fun c_26 => absurd c_26 (by decide)) (fun c_26 => ?_)
      refine x_fload_n C dX5_shareBits_29 1 rfl ?_
      refine x_fconst2 (v := 1073741824) C dX5_shareBits_30 (by decide +kernel) ?_
      refine x_fmul (v := 1062956471) C dX5_shareBits_31 (by decide +kernel) (by decide +kernel) ?_
      refine x_fstore_n (lv1 := [(2, .float 1062956471), (3, .int 127), (0, .int 3), (1, .int 7)]) C dX5_shareBits_32 (by decide) rfl ?_
      refine x_iinc (j := 1) (v := 126) (lv1 := [(3, .int 126), (2, .float 1062956471), (0, .int 3), (1, .int 7)]) C dX5_shareBits_33 rfl (by decide) (by decide) rfl ?_
      refine x_goto (tgt := 19) C dX5_shareBits_36 (by decide) ?_
      refine x_fload_n C dX5_shareBits_19 1 rfl ?_
      refine x_fconst1 (v := 1065353216) C dX5_shareBits_20 (by decide +kernel) ?_
      refine x_fcmp (v := (-1)) C dX5_shareBits_21 (by decide +kernel) ?_
      refine x_if_ge (tgt := 39) C dX5_shareBits_22 (by decide) (fun c_22_2 => absurd c_22_2 (by decide)) (fun c_22_2 => ?_)
      refine x_iload_n C dX5_shareBits_25 0 rfl ?_
      refine x_if_le (tgt := 39) C dX5_shareBits_26 (by decide) (fun c_26_2 => absurd c_26_2 (by decide)) (fun c_26_2 => ?_)
      refine x_fload_n C dX5_shareBits_29 1 rfl ?_
      refine x_fconst2 (v := 1073741824) C dX5_shareBits_30 (by decide +kernel) ?_
      refine x_fmul (v := 1071345079) C dX5_shareBits_31 (by decide +kernel) (by decide +kernel) ?_
      refine x_fstore_n (lv1 := [(2, .float 1071345079), (3, .int 126), (0, .int 3), (1, .int 7)]) C dX5_shareBits_32 (by decide) rfl ?_
      refine x_iinc (j := 1) (v := 125) (lv1 := [(3, .int 125), (2, .float 1071345079), (0, .int 3), (1, .int 7)]) C dX5_shareBits_33 rfl (by decide) (by decide) rfl ?_
      refine x_goto (tgt := 19) C dX5_shareBits_36 (by decide) ?_
      refine x_fload_n C dX5_shareBits_19 1 rfl ?_
      refine x_fconst1 (v := 1065353216) C dX5_shareBits_20 (by decide +kernel) ?_
      refine x_fcmp (v := 1) C dX5_shareBits_21 (by decide +kernel) ?_
      refine x_if_ge (tgt := 39) C dX5_shareBits_22 (by decide) (fun c_22_3 => ?_) (fun c_22_3 => absurd c_22_3 (by decide))
      refine x_fload_n C dX5_shareBits_39 1 rfl ?_
      refine x_ldcf (v := 1258291200) C kw_con_X5_203 dX5_shareBits_40 ?_
      refine x_fmul (v := 1264283063) C dX5_shareBits_42 (by decide +kernel) (by decide +kernel) ?_
      refine x_f2i (v := 14380471) C dX5_shareBits_43 (by decide +kernel) ?_
      refine x_ldc (v := 8388608) C kw_con_X5_204 dX5_shareBits_44 ?_
      refine x_isub C dX5_shareBits_46 ?_
      refine Wd.cast (w1 := []) (lv1 := [(3, .int 125), (2, .float 1071345079), (0, .int 3), (1, .int 7)]) (st1 := [.int 5991863]) rfl rfl rfl ?_
      refine x_istore (lv1 := [(4, .int 5991863), (3, .int 125), (2, .float 1071345079), (0, .int 3), (1, .int 7)]) C dX5_shareBits_47 (by decide) rfl ?_
      refine x_iload_n C dX5_shareBits_49 1 rfl ?_
      refine x_bipush (v := 23) C dX5_shareBits_50 (by decide) ?_
      refine x_ishl C dX5_shareBits_52 ?_
      refine x_iload C dX5_shareBits_53 0 rfl ?_
      refine x_ior C dX5_shareBits_55 ?_
      exact x_iret C hr hlocks rfl () (by decide +kernel) (gEq.rf _) dX5_shareBits_56
    · refine Wd.cast (w1 := []) (lv1 := [(0, .int 4), (1, .int 7)]) rfl rfl rfl ?_
      refine x_iload_n C dX5_shareBits_0 0 rfl ?_
      refine x_if_le (tgt := 8) C dX5_shareBits_1 (by decide) (fun c_1 => absurd c_1 (by decide)) (fun c_1 => ?_)
      refine x_iload_n C dX5_shareBits_4 1 rfl ?_
      refine x_if_gt (tgt := 10) C dX5_shareBits_5 (by decide) (fun c_5 => ?_) (fun c_5 => absurd c_5 (by decide))
      refine x_iload_n C dX5_shareBits_10 0 rfl ?_
      refine x_i2f (v := 1082130432) C dX5_shareBits_11 (by decide +kernel) ?_
      refine x_iload_n C dX5_shareBits_12 1 rfl ?_
      refine x_i2f (v := 1088421888) C dX5_shareBits_13 (by decide +kernel) ?_
      refine x_fdiv (v := 1058162981) C dX5_shareBits_14 (by decide +kernel) (by decide +kernel) ?_
      refine x_fstore_n (lv1 := [(2, .float 1058162981), (0, .int 4), (1, .int 7)]) C dX5_shareBits_15 (by decide) rfl ?_
      refine x_bipush (v := 127) C dX5_shareBits_16 (by decide) ?_
      refine x_istore_n (lv1 := [(3, .int 127), (2, .float 1058162981), (0, .int 4), (1, .int 7)]) C dX5_shareBits_18 (by decide) rfl ?_
      refine x_fload_n C dX5_shareBits_19 1 rfl ?_
      refine x_fconst1 (v := 1065353216) C dX5_shareBits_20 (by decide +kernel) ?_
      refine x_fcmp (v := (-1)) C dX5_shareBits_21 (by decide +kernel) ?_
      refine x_if_ge (tgt := 39) C dX5_shareBits_22 (by decide) (fun c_22 => absurd c_22 (by decide)) (fun c_22 => ?_)
      refine x_iload_n C dX5_shareBits_25 0 rfl ?_
      refine x_if_le (tgt := 39) C dX5_shareBits_26 (by decide) (fun c_26 => absurd c_26 (by decide)) (fun c_26 => ?_)
      refine x_fload_n C dX5_shareBits_29 1 rfl ?_
      refine x_fconst2 (v := 1073741824) C dX5_shareBits_30 (by decide +kernel) ?_
      refine x_fmul (v := 1066551589) C dX5_shareBits_31 (by decide +kernel) (by decide +kernel) ?_
      refine x_fstore_n (lv1 := [(2, .float 1066551589), (3, .int 127), (0, .int 4), (1, .int 7)]) C dX5_shareBits_32 (by decide) rfl ?_
      refine x_iinc (j := 1) (v := 126) (lv1 := [(3, .int 126), (2, .float 1066551589), (0, .int 4), (1, .int 7)]) C dX5_shareBits_33 rfl (by decide) (by decide) rfl ?_
      refine x_goto (tgt := 19) C dX5_shareBits_36 (by decide) ?_
      refine x_fload_n C dX5_shareBits_19 1 rfl ?_
      refine x_fconst1 (v := 1065353216) C dX5_shareBits_20 (by decide +kernel) ?_
      refine x_fcmp (v := 1) C dX5_shareBits_21 (by decide +kernel) ?_
      refine x_if_ge (tgt := 39) C dX5_shareBits_22 (by decide) (fun c_22_2 => ?_) (fun c_22_2 => absurd c_22_2 (by decide))
      refine x_fload_n C dX5_shareBits_39 1 rfl ?_
      refine x_ldcf (v := 1258291200) C kw_con_X5_203 dX5_shareBits_40 ?_
      refine x_fmul (v := 1259489573) C dX5_shareBits_42 (by decide +kernel) (by decide +kernel) ?_
      refine x_f2i (v := 9586981) C dX5_shareBits_43 (by decide +kernel) ?_
      refine x_ldc (v := 8388608) C kw_con_X5_204 dX5_shareBits_44 ?_
      refine x_isub C dX5_shareBits_46 ?_
      refine Wd.cast (w1 := []) (lv1 := [(3, .int 126), (2, .float 1066551589), (0, .int 4), (1, .int 7)]) (st1 := [.int 1198373]) rfl rfl rfl ?_
      refine x_istore (lv1 := [(4, .int 1198373), (3, .int 126), (2, .float 1066551589), (0, .int 4), (1, .int 7)]) C dX5_shareBits_47 (by decide) rfl ?_
      refine x_iload_n C dX5_shareBits_49 1 rfl ?_
      refine x_bipush (v := 23) C dX5_shareBits_50 (by decide) ?_
      refine x_ishl C dX5_shareBits_52 ?_
      refine x_iload C dX5_shareBits_53 0 rfl ?_
      refine x_ior C dX5_shareBits_55 ?_
      exact x_iret C hr hlocks rfl () (by decide +kernel) (gEq.rf _) dX5_shareBits_56
    · refine Wd.cast (w1 := []) (lv1 := [(0, .int 5), (1, .int 7)]) rfl rfl rfl ?_
      refine x_iload_n C dX5_shareBits_0 0 rfl ?_
      refine x_if_le (tgt := 8) C dX5_shareBits_1 (by decide) (fun c_1 => absurd c_1 (by decide)) (fun c_1 => ?_)
      refine x_iload_n C dX5_shareBits_4 1 rfl ?_
      refine x_if_gt (tgt := 10) C dX5_shareBits_5 (by decide) (fun c_5 => ?_) (fun c_5 => absurd c_5 (by decide))
      refine x_iload_n C dX5_shareBits_10 0 rfl ?_
      refine x_i2f (v := 1084227584) C dX5_shareBits_11 (by decide +kernel) ?_
      refine x_iload_n C dX5_shareBits_12 1 rfl ?_
      refine x_i2f (v := 1088421888) C dX5_shareBits_13 (by decide +kernel) ?_
      refine x_fdiv (v := 1060559726) C dX5_shareBits_14 (by decide +kernel) (by decide +kernel) ?_
      refine x_fstore_n (lv1 := [(2, .float 1060559726), (0, .int 5), (1, .int 7)]) C dX5_shareBits_15 (by decide) rfl ?_
      refine x_bipush (v := 127) C dX5_shareBits_16 (by decide) ?_
      refine x_istore_n (lv1 := [(3, .int 127), (2, .float 1060559726), (0, .int 5), (1, .int 7)]) C dX5_shareBits_18 (by decide) rfl ?_
      refine x_fload_n C dX5_shareBits_19 1 rfl ?_
      refine x_fconst1 (v := 1065353216) C dX5_shareBits_20 (by decide +kernel) ?_
      refine x_fcmp (v := (-1)) C dX5_shareBits_21 (by decide +kernel) ?_
      refine x_if_ge (tgt := 39) C dX5_shareBits_22 (by decide) (fun c_22 => absurd c_22 (by decide)) (fun c_22 => ?_)
      refine x_iload_n C dX5_shareBits_25 0 rfl ?_
      refine x_if_le (tgt := 39) C dX5_shareBits_26 (by decide) (fun c_26 => absurd c_26 (by decide)) (fun c_26 => ?_)
      refine x_fload_n C dX5_shareBits_29 1 rfl ?_
      refine x_fconst2 (v := 1073741824) C dX5_shareBits_30 (by decide +kernel) ?_
      refine x_fmul (v := 1068948334) C dX5_shareBits_31 (by decide +kernel) (by decide +kernel) ?_
      refine x_fstore_n (lv1 := [(2, .float 1068948334), (3, .int 127), (0, .int 5), (1, .int 7)]) C dX5_shareBits_32 (by decide) rfl ?_
      refine x_iinc (j := 1) (v := 126) (lv1 := [(3, .int 126), (2, .float 1068948334), (0, .int 5), (1, .int 7)]) C dX5_shareBits_33 rfl (by decide) (by decide) rfl ?_
      refine x_goto (tgt := 19) C dX5_shareBits_36 (by decide) ?_
      refine x_fload_n C dX5_shareBits_19 1 rfl ?_
      refine x_fconst1 (v := 1065353216) C dX5_shareBits_20 (by decide +kernel) ?_
      refine x_fcmp (v := 1) C dX5_shareBits_21 (by decide +kernel) ?_
      refine x_if_ge (tgt := 39) C dX5_shareBits_22 (by decide) (fun c_22_2 => ?_) (fun c_22_2 => absurd c_22_2 (by decide))
      refine x_fload_n C dX5_shareBits_39 1 rfl ?_
      refine x_ldcf (v := 1258291200) C kw_con_X5_203 dX5_shareBits_40 ?_
      refine x_fmul (v := 1261886318) C dX5_shareBits_42 (by decide +kernel) (by decide +kernel) ?_
      refine x_f2i (v := 11983726) C dX5_shareBits_43 (by decide +kernel) ?_
      refine x_ldc (v := 8388608) C kw_con_X5_204 dX5_shareBits_44 ?_
      refine x_isub C dX5_shareBits_46 ?_
      refine Wd.cast (w1 := []) (lv1 := [(3, .int 126), (2, .float 1068948334), (0, .int 5), (1, .int 7)]) (st1 := [.int 3595118]) rfl rfl rfl ?_
      refine x_istore (lv1 := [(4, .int 3595118), (3, .int 126), (2, .float 1068948334), (0, .int 5), (1, .int 7)]) C dX5_shareBits_47 (by decide) rfl ?_
      refine x_iload_n C dX5_shareBits_49 1 rfl ?_
      refine x_bipush (v := 23) C dX5_shareBits_50 (by decide) ?_
      refine x_ishl C dX5_shareBits_52 ?_
      refine x_iload C dX5_shareBits_53 0 rfl ?_
      refine x_ior C dX5_shareBits_55 ?_
      exact x_iret C hr hlocks rfl () (by decide +kernel) (gEq.rf _) dX5_shareBits_56
    · refine Wd.cast (w1 := []) (lv1 := [(0, .int 6), (1, .int 7)]) rfl rfl rfl ?_
      refine x_iload_n C dX5_shareBits_0 0 rfl ?_
      refine x_if_le (tgt := 8) C dX5_shareBits_1 (by decide) (fun c_1 => absurd c_1 (by decide)) (fun c_1 => ?_)
      refine x_iload_n C dX5_shareBits_4 1 rfl ?_
      refine x_if_gt (tgt := 10) C dX5_shareBits_5 (by decide) (fun c_5 => ?_) (fun c_5 => absurd c_5 (by decide))
      refine x_iload_n C dX5_shareBits_10 0 rfl ?_
      refine x_i2f (v := 1086324736) C dX5_shareBits_11 (by decide +kernel) ?_
      refine x_iload_n C dX5_shareBits_12 1 rfl ?_
      refine x_i2f (v := 1088421888) C dX5_shareBits_13 (by decide +kernel) ?_
      refine x_fdiv (v := 1062956471) C dX5_shareBits_14 (by decide +kernel) (by decide +kernel) ?_
      refine x_fstore_n (lv1 := [(2, .float 1062956471), (0, .int 6), (1, .int 7)]) C dX5_shareBits_15 (by decide) rfl ?_
      refine x_bipush (v := 127) C dX5_shareBits_16 (by decide) ?_
      refine x_istore_n (lv1 := [(3, .int 127), (2, .float 1062956471), (0, .int 6), (1, .int 7)]) C dX5_shareBits_18 (by decide) rfl ?_
      refine x_fload_n C dX5_shareBits_19 1 rfl ?_
      refine x_fconst1 (v := 1065353216) C dX5_shareBits_20 (by decide +kernel) ?_
      refine x_fcmp (v := (-1)) C dX5_shareBits_21 (by decide +kernel) ?_
      refine x_if_ge (tgt := 39) C dX5_shareBits_22 (by decide) (fun c_22 => absurd c_22 (by decide)) (fun c_22 => ?_)
      refine x_iload_n C dX5_shareBits_25 0 rfl ?_
      refine x_if_le (tgt := 39) C dX5_shareBits_26 (by decide) (fun c_26 => absurd c_26 (by decide)) (fun c_26 => ?_)
      refine x_fload_n C dX5_shareBits_29 1 rfl ?_
      refine x_fconst2 (v := 1073741824) C dX5_shareBits_30 (by decide +kernel) ?_
      refine x_fmul (v := 1071345079) C dX5_shareBits_31 (by decide +kernel) (by decide +kernel) ?_
      refine x_fstore_n (lv1 := [(2, .float 1071345079), (3, .int 127), (0, .int 6), (1, .int 7)]) C dX5_shareBits_32 (by decide) rfl ?_
      refine x_iinc (j := 1) (v := 126) (lv1 := [(3, .int 126), (2, .float 1071345079), (0, .int 6), (1, .int 7)]) C dX5_shareBits_33 rfl (by decide) (by decide) rfl ?_
      refine x_goto (tgt := 19) C dX5_shareBits_36 (by decide) ?_
      refine x_fload_n C dX5_shareBits_19 1 rfl ?_
      refine x_fconst1 (v := 1065353216) C dX5_shareBits_20 (by decide +kernel) ?_
      refine x_fcmp (v := 1) C dX5_shareBits_21 (by decide +kernel) ?_
      refine x_if_ge (tgt := 39) C dX5_shareBits_22 (by decide) (fun c_22_2 => ?_) (fun c_22_2 => absurd c_22_2 (by decide))
      refine x_fload_n C dX5_shareBits_39 1 rfl ?_
      refine x_ldcf (v := 1258291200) C kw_con_X5_203 dX5_shareBits_40 ?_
      refine x_fmul (v := 1264283063) C dX5_shareBits_42 (by decide +kernel) (by decide +kernel) ?_
      refine x_f2i (v := 14380471) C dX5_shareBits_43 (by decide +kernel) ?_
      refine x_ldc (v := 8388608) C kw_con_X5_204 dX5_shareBits_44 ?_
      refine x_isub C dX5_shareBits_46 ?_
      refine Wd.cast (w1 := []) (lv1 := [(3, .int 126), (2, .float 1071345079), (0, .int 6), (1, .int 7)]) (st1 := [.int 5991863]) rfl rfl rfl ?_
      refine x_istore (lv1 := [(4, .int 5991863), (3, .int 126), (2, .float 1071345079), (0, .int 6), (1, .int 7)]) C dX5_shareBits_47 (by decide) rfl ?_
      refine x_iload_n C dX5_shareBits_49 1 rfl ?_
      refine x_bipush (v := 23) C dX5_shareBits_50 (by decide) ?_
      refine x_ishl C dX5_shareBits_52 ?_
      refine x_iload C dX5_shareBits_53 0 rfl ?_
      refine x_ior C dX5_shareBits_55 ?_
      exact x_iret C hr hlocks rfl () (by decide +kernel) (gEq.rf _) dX5_shareBits_56
    · refine Wd.cast (w1 := []) (lv1 := [(0, .int 7), (1, .int 7)]) rfl rfl rfl ?_
      refine x_iload_n C dX5_shareBits_0 0 rfl ?_
      refine x_if_le (tgt := 8) C dX5_shareBits_1 (by decide) (fun c_1 => absurd c_1 (by decide)) (fun c_1 => ?_)
      refine x_iload_n C dX5_shareBits_4 1 rfl ?_
      refine x_if_gt (tgt := 10) C dX5_shareBits_5 (by decide) (fun c_5 => ?_) (fun c_5 => absurd c_5 (by decide))
      refine x_iload_n C dX5_shareBits_10 0 rfl ?_
      refine x_i2f (v := 1088421888) C dX5_shareBits_11 (by decide +kernel) ?_
      refine x_iload_n C dX5_shareBits_12 1 rfl ?_
      refine x_i2f (v := 1088421888) C dX5_shareBits_13 (by decide +kernel) ?_
      refine x_fdiv (v := 1065353216) C dX5_shareBits_14 (by decide +kernel) (by decide +kernel) ?_
      refine x_fstore_n (lv1 := [(2, .float 1065353216), (0, .int 7), (1, .int 7)]) C dX5_shareBits_15 (by decide) rfl ?_
      refine x_bipush (v := 127) C dX5_shareBits_16 (by decide) ?_
      refine x_istore_n (lv1 := [(3, .int 127), (2, .float 1065353216), (0, .int 7), (1, .int 7)]) C dX5_shareBits_18 (by decide) rfl ?_
      refine x_fload_n C dX5_shareBits_19 1 rfl ?_
      refine x_fconst1 (v := 1065353216) C dX5_shareBits_20 (by decide +kernel) ?_
      refine x_fcmp (v := 0) C dX5_shareBits_21 (by decide +kernel) ?_
      refine x_if_ge (tgt := 39) C dX5_shareBits_22 (by decide) (fun c_22 => ?_) (fun c_22 => absurd c_22 (by decide))
      refine x_fload_n C dX5_shareBits_39 1 rfl ?_
      refine x_ldcf (v := 1258291200) C kw_con_X5_203 dX5_shareBits_40 ?_
      refine x_fmul (v := 1258291200) C dX5_shareBits_42 (by decide +kernel) (by decide +kernel) ?_
      refine x_f2i (v := 8388608) C dX5_shareBits_43 (by decide +kernel) ?_
      refine x_ldc (v := 8388608) C kw_con_X5_204 dX5_shareBits_44 ?_
      refine x_isub C dX5_shareBits_46 ?_
      refine Wd.cast (w1 := []) (lv1 := [(3, .int 127), (2, .float 1065353216), (0, .int 7), (1, .int 7)]) (st1 := [.int 0]) rfl rfl rfl ?_
      refine x_istore (lv1 := [(4, .int 0), (3, .int 127), (2, .float 1065353216), (0, .int 7), (1, .int 7)]) C dX5_shareBits_47 (by decide) rfl ?_
      refine x_iload_n C dX5_shareBits_49 1 rfl ?_
      refine x_bipush (v := 23) C dX5_shareBits_50 (by decide) ?_
      refine x_ishl C dX5_shareBits_52 ?_
      refine x_iload C dX5_shareBits_53 0 rfl ?_
      refine x_ior C dX5_shareBits_55 ?_
      exact x_iret C hr hlocks rfl () (by decide +kernel) (gEq.rf _) dX5_shareBits_56
  · rcases (show mm = 0 ∨ mm = 1 ∨ mm = 2 ∨ mm = 3 ∨ mm = 4 ∨ mm = 5 ∨ mm = 6 ∨ mm = 7 ∨ mm = 8 by omega) with rfl | rfl | rfl | rfl | rfl | rfl | rfl | rfl | rfl
    · refine Wd.cast (w1 := []) (lv1 := [(0, .int 0), (1, .int 8)]) rfl rfl rfl ?_
      refine x_iload_n C dX5_shareBits_0 0 rfl ?_
      refine x_if_le (tgt := 8) C dX5_shareBits_1 (by decide) (fun c_1 => ?_) (fun c_1 => absurd c_1 (by decide))
      refine x_iconst (v := 0) C dX5_shareBits_8 (by decide) ?_
      exact x_iret C hr hlocks rfl () (by decide +kernel) (gEq.rf _) dX5_shareBits_9
    · refine Wd.cast (w1 := []) (lv1 := [(0, .int 1), (1, .int 8)]) rfl rfl rfl ?_
      refine x_iload_n C dX5_shareBits_0 0 rfl ?_
      refine x_if_le (tgt := 8) C dX5_shareBits_1 (by decide) (fun c_1 => absurd c_1 (by decide)) (fun c_1 => ?_)
      refine x_iload_n C dX5_shareBits_4 1 rfl ?_
      refine x_if_gt (tgt := 10) C dX5_shareBits_5 (by decide) (fun c_5 => ?_) (fun c_5 => absurd c_5 (by decide))
      refine x_iload_n C dX5_shareBits_10 0 rfl ?_
      refine x_i2f (v := 1065353216) C dX5_shareBits_11 (by decide +kernel) ?_
      refine x_iload_n C dX5_shareBits_12 1 rfl ?_
      refine x_i2f (v := 1090519040) C dX5_shareBits_13 (by decide +kernel) ?_
      refine x_fdiv (v := 1040187392) C dX5_shareBits_14 (by decide +kernel) (by decide +kernel) ?_
      refine x_fstore_n (lv1 := [(2, .float 1040187392), (0, .int 1), (1, .int 8)]) C dX5_shareBits_15 (by decide) rfl ?_
      refine x_bipush (v := 127) C dX5_shareBits_16 (by decide) ?_
      refine x_istore_n (lv1 := [(3, .int 127), (2, .float 1040187392), (0, .int 1), (1, .int 8)]) C dX5_shareBits_18 (by decide) rfl ?_
      refine x_fload_n C dX5_shareBits_19 1 rfl ?_
      refine x_fconst1 (v := 1065353216) C dX5_shareBits_20 (by decide +kernel) ?_
      refine x_fcmp (v := (-1)) C dX5_shareBits_21 (by decide +kernel) ?_
      refine x_if_ge (tgt := 39) C dX5_shareBits_22 (by decide) (fun c_22 => absurd c_22 (by decide)) (fun c_22 => ?_)
      refine x_iload_n C dX5_shareBits_25 0 rfl ?_
      refine x_if_le (tgt := 39) C dX5_shareBits_26 (by decide) (fun c_26 => absurd c_26 (by decide)) (fun c_26 => ?_)
      refine x_fload_n C dX5_shareBits_29 1 rfl ?_
      refine x_fconst2 (v := 1073741824) C dX5_shareBits_30 (by decide +kernel) ?_
      refine x_fmul (v := 1048576000) C dX5_shareBits_31 (by decide +kernel) (by decide +kernel) ?_
      refine x_fstore_n (lv1 := [(2, .float 1048576000), (3, .int 127), (0, .int 1), (1, .int 8)]) C dX5_shareBits_32 (by decide) rfl ?_
      refine x_iinc (j := 1) (v := 126) (lv1 := [(3, .int 126), (2, .float 1048576000), (0, .int 1), (1, .int 8)]) C dX5_shareBits_33 rfl (by decide) (by decide) rfl ?_
      refine x_goto (tgt := 19) C dX5_shareBits_36 (by decide) ?_
      refine x_fload_n C dX5_shareBits_19 1 rfl ?_
      refine x_fconst1 (v := 1065353216) C dX5_shareBits_20 (by decide +kernel) ?_
      refine x_fcmp (v := (-1)) C dX5_shareBits_21 (by decide +kernel) ?_
      refine x_if_ge (tgt := 39) C dX5_shareBits_22 (by decide) (fun c_22_2 => absurd c_22_2 (by decide)) (fun c_22_2 => ?_)
      refine x_iload_n C dX5_shareBits_25 0 rfl ?_
      refine x_if_le (tgt := 39) C dX5_shareBits_26 (by decide) (fun c_26_2 => absurd c_26_2 (by decide)) (fun c_26_2 => ?_)
      refine x_fload_n C dX5_shareBits_29 1 rfl ?_
      refine x_fconst2 (v := 1073741824) C dX5_shareBits_30 (by decide +kernel) ?_
      refine x_fmul (v := 1056964608) C dX5_shareBits_31 (by decide +kernel) (by decide +kernel) ?_
      refine x_fstore_n (lv1 := [(2, .float 1056964608), (3, .int 126), (0, .int 1), (1, .int 8)]) C dX5_shareBits_32 (by decide) rfl ?_
      refine x_iinc (j := 1) (v := 125) (lv1 := [(3, .int 125), (2, .float 1056964608), (0, .int 1), (1, .int 8)]) C dX5_shareBits_33 rfl (by decide) (by decide) rfl ?_
      refine x_goto (tgt := 19) C dX5_shareBits_36 (by decide) ?_
      refine x_fload_n C dX5_shareBits_19 1 rfl ?_
      refine x_fconst1 (v := 1065353216) C dX5_shareBits_20 (by decide +kernel) ?_
      refine x_fcmp (v := (-1)) C dX5_shareBits_21 (by decide +kernel) ?_
      refine x_if_ge (tgt := 39) C dX5_shareBits_22 (by decide) (fun c_22_3 => absurd c_22_3 (by decide)) (fun c_22_3 => ?_)
      refine x_iload_n C dX5_shareBits_25 0 rfl ?_
      refine x_if_le (tgt := 39) C dX5_shareBits_26 (by decide) (fun c_26_3 => absurd c_26_3 (by decide)) (fun c_26_3 => ?_)
      refine x_fload_n C dX5_shareBits_29 1 rfl ?_
      refine x_fconst2 (v := 1073741824) C dX5_shareBits_30 (by decide +kernel) ?_
      refine x_fmul (v := 1065353216) C dX5_shareBits_31 (by decide +kernel) (by decide +kernel) ?_
      refine x_fstore_n (lv1 := [(2, .float 1065353216), (3, .int 125), (0, .int 1), (1, .int 8)]) C dX5_shareBits_32 (by decide) rfl ?_
      refine x_iinc (j := 1) (v := 124) (lv1 := [(3, .int 124), (2, .float 1065353216), (0, .int 1), (1, .int 8)]) C dX5_shareBits_33 rfl (by decide) (by decide) rfl ?_
      refine x_goto (tgt := 19) C dX5_shareBits_36 (by decide) ?_
      refine x_fload_n C dX5_shareBits_19 1 rfl ?_
      refine x_fconst1 (v := 1065353216) C dX5_shareBits_20 (by decide +kernel) ?_
      refine x_fcmp (v := 0) C dX5_shareBits_21 (by decide +kernel) ?_
      refine x_if_ge (tgt := 39) C dX5_shareBits_22 (by decide) (fun c_22_4 => ?_) (fun c_22_4 => absurd c_22_4 (by decide))
      refine x_fload_n C dX5_shareBits_39 1 rfl ?_
      refine x_ldcf (v := 1258291200) C kw_con_X5_203 dX5_shareBits_40 ?_
      refine x_fmul (v := 1258291200) C dX5_shareBits_42 (by decide +kernel) (by decide +kernel) ?_
      refine x_f2i (v := 8388608) C dX5_shareBits_43 (by decide +kernel) ?_
      refine x_ldc (v := 8388608) C kw_con_X5_204 dX5_shareBits_44 ?_
      refine x_isub C dX5_shareBits_46 ?_
      refine Wd.cast (w1 := []) (lv1 := [(3, .int 124), (2, .float 1065353216), (0, .int 1), (1, .int 8)]) (st1 := [.int 0]) rfl rfl rfl ?_
      refine x_istore (lv1 := [(4, .int 0), (3, .int 124), (2, .float 1065353216), (0, .int 1), (1, .int 8)]) C dX5_shareBits_47 (by decide) rfl ?_
      refine x_iload_n C dX5_shareBits_49 1 rfl ?_
      refine x_bipush (v := 23) C dX5_shareBits_50 (by decide) ?_
      refine x_ishl C dX5_shareBits_52 ?_
      refine x_iload C dX5_shareBits_53 0 rfl ?_
      refine x_ior C dX5_shareBits_55 ?_
      exact x_iret C hr hlocks rfl () (by decide +kernel) (gEq.rf _) dX5_shareBits_56
    · refine Wd.cast (w1 := []) (lv1 := [(0, .int 2), (1, .int 8)]) rfl rfl rfl ?_
      refine x_iload_n C dX5_shareBits_0 0 rfl ?_
      refine x_if_le (tgt := 8) C dX5_shareBits_1 (by decide) (fun c_1 => absurd c_1 (by decide)) (fun c_1 => ?_)
      refine x_iload_n C dX5_shareBits_4 1 rfl ?_
      refine x_if_gt (tgt := 10) C dX5_shareBits_5 (by decide) (fun c_5 => ?_) (fun c_5 => absurd c_5 (by decide))
      refine x_iload_n C dX5_shareBits_10 0 rfl ?_
      refine x_i2f (v := 1073741824) C dX5_shareBits_11 (by decide +kernel) ?_
      refine x_iload_n C dX5_shareBits_12 1 rfl ?_
      refine x_i2f (v := 1090519040) C dX5_shareBits_13 (by decide +kernel) ?_
      refine x_fdiv (v := 1048576000) C dX5_shareBits_14 (by decide +kernel) (by decide +kernel) ?_
      refine x_fstore_n (lv1 := [(2, .float 1048576000), (0, .int 2), (1, .int 8)]) C dX5_shareBits_15 (by decide) rfl ?_
      refine x_bipush (v := 127) C dX5_shareBits_16 (by decide) ?_
      refine x_istore_n (lv1 := [(3, .int 127), (2, .float 1048576000), (0, .int 2), (1, .int 8)]) C dX5_shareBits_18 (by decide) rfl ?_
      refine x_fload_n C dX5_shareBits_19 1 rfl ?_
      refine x_fconst1 (v := 1065353216) C dX5_shareBits_20 (by decide +kernel) ?_
      refine x_fcmp (v := (-1)) C dX5_shareBits_21 (by decide +kernel) ?_
      refine x_if_ge (tgt := 39) C dX5_shareBits_22 (by decide) (fun c_22 => absurd c_22 (by decide)) (fun c_22 => ?_)
      refine x_iload_n C dX5_shareBits_25 0 rfl ?_
      refine x_if_le (tgt := 39) C dX5_shareBits_26 (by decide) (fun c_26 => absurd c_26 (by decide)) (fun c_26 => ?_)
      refine x_fload_n C dX5_shareBits_29 1 rfl ?_
      refine x_fconst2 (v := 1073741824) C dX5_shareBits_30 (by decide +kernel) ?_
      refine x_fmul (v := 1056964608) C dX5_shareBits_31 (by decide +kernel) (by decide +kernel) ?_
      refine x_fstore_n (lv1 := [(2, .float 1056964608), (3, .int 127), (0, .int 2), (1, .int 8)]) C dX5_shareBits_32 (by decide) rfl ?_
      refine x_iinc (j := 1) (v := 126) (lv1 := [(3, .int 126), (2, .float 1056964608), (0, .int 2), (1, .int 8)]) C dX5_shareBits_33 rfl (by decide) (by decide) rfl ?_
      refine x_goto (tgt := 19) C dX5_shareBits_36 (by decide) ?_
      refine x_fload_n C dX5_shareBits_19 1 rfl ?_
      refine x_fconst1 (v := 1065353216) C dX5_shareBits_20 (by decide +kernel) ?_
      refine x_fcmp (v := (-1)) C dX5_shareBits_21 (by decide +kernel) ?_
      refine x_if_ge (tgt := 39) C dX5_shareBits_22 (by decide) (fun c_22_2 => absurd c_22_2 (by decide)) (fun c_22_2 => ?_)
      refine x_iload_n C dX5_shareBits_25 0 rfl ?_
      refine x_if_le (tgt := 39) C dX5_shareBits_26 (by decide) (fun c_26_2 => absurd c_26_2 (by decide)) (fun c_26_2 => ?_)
      refine x_fload_n C dX5_shareBits_29 1 rfl ?_
      refine x_fconst2 (v := 1073741824) C dX5_shareBits_30 (by decide +kernel) ?_
      refine x_fmul (v := 1065353216) C dX5_shareBits_31 (by decide +kernel) (by decide +kernel) ?_
      refine x_fstore_n (lv1 := [(2, .float 1065353216), (3, .int 126), (0, .int 2), (1, .int 8)]) C dX5_shareBits_32 (by decide) rfl ?_
      refine x_iinc (j := 1) (v := 125) (lv1 := [(3, .int 125), (2, .float 1065353216), (0, .int 2), (1, .int 8)]) C dX5_shareBits_33 rfl (by decide) (by decide) rfl ?_
      refine x_goto (tgt := 19) C dX5_shareBits_36 (by decide) ?_
      refine x_fload_n C dX5_shareBits_19 1 rfl ?_
      refine x_fconst1 (v := 1065353216) C dX5_shareBits_20 (by decide +kernel) ?_
      refine x_fcmp (v := 0) C dX5_shareBits_21 (by decide +kernel) ?_
      refine x_if_ge (tgt := 39) C dX5_shareBits_22 (by decide) (fun c_22_3 => ?_) (fun c_22_3 => absurd c_22_3 (by decide))
      refine x_fload_n C dX5_shareBits_39 1 rfl ?_
      refine x_ldcf (v := 1258291200) C kw_con_X5_203 dX5_shareBits_40 ?_
      refine x_fmul (v := 1258291200) C dX5_shareBits_42 (by decide +kernel) (by decide +kernel) ?_
      refine x_f2i (v := 8388608) C dX5_shareBits_43 (by decide +kernel) ?_
      refine x_ldc (v := 8388608) C kw_con_X5_204 dX5_shareBits_44 ?_
      refine x_isub C dX5_shareBits_46 ?_
      refine Wd.cast (w1 := []) (lv1 := [(3, .int 125), (2, .float 1065353216), (0, .int 2), (1, .int 8)]) (st1 := [.int 0]) rfl rfl rfl ?_
      refine x_istore (lv1 := [(4, .int 0), (3, .int 125), (2, .float 1065353216), (0, .int 2), (1, .int 8)]) C dX5_shareBits_47 (by decide) rfl ?_
      refine x_iload_n C dX5_shareBits_49 1 rfl ?_
      refine x_bipush (v := 23) C dX5_shareBits_50 (by decide) ?_
      refine x_ishl C dX5_shareBits_52 ?_
      refine x_iload C dX5_shareBits_53 0 rfl ?_
      refine x_ior C dX5_shareBits_55 ?_
      exact x_iret C hr hlocks rfl () (by decide +kernel) (gEq.rf _) dX5_shareBits_56
    · refine Wd.cast (w1 := []) (lv1 := [(0, .int 3), (1, .int 8)]) rfl rfl rfl ?_
      refine x_iload_n C dX5_shareBits_0 0 rfl ?_
      refine x_if_le (tgt := 8) C dX5_shareBits_1 (by decide) (fun c_1 => absurd c_1 (by decide)) (fun c_1 => ?_)
      refine x_iload_n C dX5_shareBits_4 1 rfl ?_
      refine x_if_gt (tgt := 10) C dX5_shareBits_5 (by decide) (fun c_5 => ?_) (fun c_5 => absurd c_5 (by decide))
      refine x_iload_n C dX5_shareBits_10 0 rfl ?_
      refine x_i2f (v := 1077936128) C dX5_shareBits_11 (by decide +kernel) ?_
      refine x_iload_n C dX5_shareBits_12 1 rfl ?_
      refine x_i2f (v := 1090519040) C dX5_shareBits_13 (by decide +kernel) ?_
      refine x_fdiv (v := 1052770304) C dX5_shareBits_14 (by decide +kernel) (by decide +kernel) ?_
      refine x_fstore_n (lv1 := [(2, .float 1052770304), (0, .int 3), (1, .int 8)]) C dX5_shareBits_15 (by decide) rfl ?_
      refine x_bipush (v := 127) C dX5_shareBits_16 (by decide) ?_
      refine x_istore_n (lv1 := [(3, .int 127), (2, .float 1052770304), (0, .int 3), (1, .int 8)]) C dX5_shareBits_18 (by decide) rfl ?_
      refine x_fload_n C dX5_shareBits_19 1 rfl ?_
      refine x_fconst1 (v := 1065353216) C dX5_shareBits_20 (by decide +kernel) ?_
      refine x_fcmp (v := (-1)) C dX5_shareBits_21 (by decide +kernel) ?_
      refine x_if_ge (tgt := 39) C dX5_shareBits_22 (by decide) (fun c_22 => absurd c_22 (by decide)) (fun c_22 => ?_)
      refine x_iload_n C dX5_shareBits_25 0 rfl ?_
      refine x_if_le (tgt := 39) C dX5_shareBits_26 (by decide) (fun c_26 => absurd c_26 (by decide)) (fun c_26 => ?_)
      refine x_fload_n C dX5_shareBits_29 1 rfl ?_
      refine x_fconst2 (v := 1073741824) C dX5_shareBits_30 (by decide +kernel) ?_
      refine x_fmul (v := 1061158912) C dX5_shareBits_31 (by decide +kernel) (by decide +kernel) ?_
      refine x_fstore_n (lv1 := [(2, .float 1061158912), (3, .int 127), (0, .int 3), (1, .int 8)]) C dX5_shareBits_32 (by decide) rfl ?_
      refine x_iinc (j := 1) (v := 126) (lv1 := [(3, .int 126), (2, .float 1061158912), (0, .int 3), (1, .int 8)]) C dX5_shareBits_33 rfl (by decide) (by decide) rfl ?_
      refine x_goto (tgt := 19) C dX5_shareBits_36 (by decide) ?_
      refine x_fload_n C dX5_shareBits_19 1 rfl ?_
      refine x_fconst1 (v := 1065353216) C dX5_shareBits_20 (by decide +kernel) ?_
      refine x_fcmp (v := (-1)) C dX5_shareBits_21 (by decide +kernel) ?_
      refine x_if_ge (tgt := 39) C dX5_shareBits_22 (by decide) (fun c_22_2 => absurd c_22_2 (by decide)) (fun c_22_2 => ?_)
      refine x_iload_n C dX5_shareBits_25 0 rfl ?_
      refine x_if_le (tgt := 39) C dX5_shareBits_26 (by decide) (fun c_26_2 => absurd c_26_2 (by decide)) (fun c_26_2 => ?_)
      refine x_fload_n C dX5_shareBits_29 1 rfl ?_
      refine x_fconst2 (v := 1073741824) C dX5_shareBits_30 (by decide +kernel) ?_
      refine x_fmul (v := 1069547520) C dX5_shareBits_31 (by decide +kernel) (by decide +kernel) ?_
      refine x_fstore_n (lv1 := [(2, .float 1069547520), (3, .int 126), (0, .int 3), (1, .int 8)]) C dX5_shareBits_32 (by decide) rfl ?_
      refine x_iinc (j := 1) (v := 125) (lv1 := [(3, .int 125), (2, .float 1069547520), (0, .int 3), (1, .int 8)]) C dX5_shareBits_33 rfl (by decide) (by decide) rfl ?_
      refine x_goto (tgt := 19) C dX5_shareBits_36 (by decide) ?_
      refine x_fload_n C dX5_shareBits_19 1 rfl ?_
      refine x_fconst1 (v := 1065353216) C dX5_shareBits_20 (by decide +kernel) ?_
      refine x_fcmp (v := 1) C dX5_shareBits_21 (by decide +kernel) ?_
      refine x_if_ge (tgt := 39) C dX5_shareBits_22 (by decide) (fun c_22_3 => ?_) (fun c_22_3 => absurd c_22_3 (by decide))
      refine x_fload_n C dX5_shareBits_39 1 rfl ?_
      refine x_ldcf (v := 1258291200) C kw_con_X5_203 dX5_shareBits_40 ?_
      refine x_fmul (v := 1262485504) C dX5_shareBits_42 (by decide +kernel) (by decide +kernel) ?_
      refine x_f2i (v := 12582912) C dX5_shareBits_43 (by decide +kernel) ?_
      refine x_ldc (v := 8388608) C kw_con_X5_204 dX5_shareBits_44 ?_
      refine x_isub C dX5_shareBits_46 ?_
      refine Wd.cast (w1 := []) (lv1 := [(3, .int 125), (2, .float 1069547520), (0, .int 3), (1, .int 8)]) (st1 := [.int 4194304]) rfl rfl rfl ?_
      refine x_istore (lv1 := [(4, .int 4194304), (3, .int 125), (2, .float 1069547520), (0, .int 3), (1, .int 8)]) C dX5_shareBits_47 (by decide) rfl ?_
      refine x_iload_n C dX5_shareBits_49 1 rfl ?_
      refine x_bipush (v := 23) C dX5_shareBits_50 (by decide) ?_
      refine x_ishl C dX5_shareBits_52 ?_
      refine x_iload C dX5_shareBits_53 0 rfl ?_
      refine x_ior C dX5_shareBits_55 ?_
      exact x_iret C hr hlocks rfl () (by decide +kernel) (gEq.rf _) dX5_shareBits_56
    · refine Wd.cast (w1 := []) (lv1 := [(0, .int 4), (1, .int 8)]) rfl rfl rfl ?_
      refine x_iload_n C dX5_shareBits_0 0 rfl ?_
      refine x_if_le (tgt := 8) C dX5_shareBits_1 (by decide) (fun c_1 => absurd c_1 (by decide)) (fun c_1 => ?_)
      refine x_iload_n C dX5_shareBits_4 1 rfl ?_
      refine x_if_gt (tgt := 10) C dX5_shareBits_5 (by decide) (fun c_5 => ?_) (fun c_5 => absurd c_5 (by decide))
      refine x_iload_n C dX5_shareBits_10 0 rfl ?_
      refine x_i2f (v := 1082130432) C dX5_shareBits_11 (by decide +kernel) ?_
      refine x_iload_n C dX5_shareBits_12 1 rfl ?_
      refine x_i2f (v := 1090519040) C dX5_shareBits_13 (by decide +kernel) ?_
      refine x_fdiv (v := 1056964608) C dX5_shareBits_14 (by decide +kernel) (by decide +kernel) ?_
      refine x_fstore_n (lv1 := [(2, .float 1056964608), (0, .int 4), (1, .int 8)]) C dX5_shareBits_15 (by decide) rfl ?_
      refine x_bipush (v := 127) C dX5_shareBits_16 (by decide) ?_
      refine x_istore_n (lv1 := [(3, .int 127), (2, .float 1056964608), (0, .int 4), (1, .int 8)]) C dX5_shareBits_18 (by decide) rfl ?_
      refine x_fload_n C dX5_shareBits_19 1 rfl ?_
      refine x_fconst1 (v := 1065353216) C dX5_shareBits_20 (by decide +kernel) ?_
      refine x_fcmp (v := (-1)) C dX5_shareBits_21 (by decide +kernel) ?_
      refine x_if_ge (tgt := 39) C dX5_shareBits_22 (by decide) (fun c_22 => absurd c_22 (by decide)) (fun c_22 => ?_)
      refine x_iload_n C dX5_shareBits_25 0 rfl ?_
      refine x_if_le (tgt := 39) C dX5_shareBits_26 (by decide) (fun c_26 => absurd c_26 (by decide)) (fun c_26 => ?_)
      refine x_fload_n C dX5_shareBits_29 1 rfl ?_
      refine x_fconst2 (v := 1073741824) C dX5_shareBits_30 (by decide +kernel) ?_
      refine x_fmul (v := 1065353216) C dX5_shareBits_31 (by decide +kernel) (by decide +kernel) ?_
      refine x_fstore_n (lv1 := [(2, .float 1065353216), (3, .int 127), (0, .int 4), (1, .int 8)]) C dX5_shareBits_32 (by decide) rfl ?_
      refine x_iinc (j := 1) (v := 126) (lv1 := [(3, .int 126), (2, .float 1065353216), (0, .int 4), (1, .int 8)]) C dX5_shareBits_33 rfl (by decide) (by decide) rfl ?_
      refine x_goto (tgt := 19) C dX5_shareBits_36 (by decide) ?_
      refine x_fload_n C dX5_shareBits_19 1 rfl ?_
      refine x_fconst1 (v := 1065353216) C dX5_shareBits_20 (by decide +kernel) ?_
      refine x_fcmp (v := 0) C dX5_shareBits_21 (by decide +kernel) ?_
      refine x_if_ge (tgt := 39) C dX5_shareBits_22 (by decide) (fun c_22_2 => ?_) (fun c_22_2 => absurd c_22_2 (by decide))
      refine x_fload_n C dX5_shareBits_39 1 rfl ?_
      refine x_ldcf (v := 1258291200) C kw_con_X5_203 dX5_shareBits_40 ?_
      refine x_fmul (v := 1258291200) C dX5_shareBits_42 (by decide +kernel) (by decide +kernel) ?_
      refine x_f2i (v := 8388608) C dX5_shareBits_43 (by decide +kernel) ?_
      refine x_ldc (v := 8388608) C kw_con_X5_204 dX5_shareBits_44 ?_
      refine x_isub C dX5_shareBits_46 ?_
      refine Wd.cast (w1 := []) (lv1 := [(3, .int 126), (2, .float 1065353216), (0, .int 4), (1, .int 8)]) (st1 := [.int 0]) rfl rfl rfl ?_
      refine x_istore (lv1 := [(4, .int 0), (3, .int 126), (2, .float 1065353216), (0, .int 4), (1, .int 8)]) C dX5_shareBits_47 (by decide) rfl ?_
      refine x_iload_n C dX5_shareBits_49 1 rfl ?_
      refine x_bipush (v := 23) C dX5_shareBits_50 (by decide) ?_
      refine x_ishl C dX5_shareBits_52 ?_
      refine x_iload C dX5_shareBits_53 0 rfl ?_
      refine x_ior C dX5_shareBits_55 ?_
      exact x_iret C hr hlocks rfl () (by decide +kernel) (gEq.rf _) dX5_shareBits_56
    · refine Wd.cast (w1 := []) (lv1 := [(0, .int 5), (1, .int 8)]) rfl rfl rfl ?_
      refine x_iload_n C dX5_shareBits_0 0 rfl ?_
      refine x_if_le (tgt := 8) C dX5_shareBits_1 (by decide) (fun c_1 => absurd c_1 (by decide)) (fun c_1 => ?_)
      refine x_iload_n C dX5_shareBits_4 1 rfl ?_
      refine x_if_gt (tgt := 10) C dX5_shareBits_5 (by decide) (fun c_5 => ?_) (fun c_5 => absurd c_5 (by decide))
      refine x_iload_n C dX5_shareBits_10 0 rfl ?_
      refine x_i2f (v := 1084227584) C dX5_shareBits_11 (by decide +kernel) ?_
      refine x_iload_n C dX5_shareBits_12 1 rfl ?_
      refine x_i2f (v := 1090519040) C dX5_shareBits_13 (by decide +kernel) ?_
      refine x_fdiv (v := 1059061760) C dX5_shareBits_14 (by decide +kernel) (by decide +kernel) ?_
      refine x_fstore_n (lv1 := [(2, .float 1059061760), (0, .int 5), (1, .int 8)]) C dX5_shareBits_15 (by decide) rfl ?_
      refine x_bipush (v := 127) C dX5_shareBits_16 (by decide) ?_
      refine x_istore_n (lv1 := [(3, .int 127), (2, .float 1059061760), (0, .int 5), (1, .int 8)]) C dX5_shareBits_18 (by decide) rfl ?_
      refine x_fload_n C dX5_shareBits_19 1 rfl ?_
      refine x_fconst1 (v := 1065353216) C dX5_shareBits_20 (by decide +kernel) ?_
      refine x_fcmp (v := (-1)) C dX5_shareBits_21 (by decide +kernel) ?_
      refine x_if_ge (tgt := 39) C dX5_shareBits_22 (by decide) (fun c_22 => absurd c_22 (by decide)) (fun c_22 => ?_)
      refine x_iload_n C dX5_shareBits_25 0 rfl ?_
      refine x_if_le (tgt := 39) C dX5_shareBits_26 (by decide) (fun c_26 => absurd c_26 (by decide)) (fun c_26 => ?_)
      refine x_fload_n C dX5_shareBits_29 1 rfl ?_
      refine x_fconst2 (v := 1073741824) C dX5_shareBits_30 (by decide +kernel) ?_
      refine x_fmul (v := 1067450368) C dX5_shareBits_31 (by decide +kernel) (by decide +kernel) ?_
      refine x_fstore_n (lv1 := [(2, .float 1067450368), (3, .int 127), (0, .int 5), (1, .int 8)]) C dX5_shareBits_32 (by decide) rfl ?_
      refine x_iinc (j := 1) (v := 126) (lv1 := [(3, .int 126), (2, .float 1067450368), (0, .int 5), (1, .int 8)]) C dX5_shareBits_33 rfl (by decide) (by decide) rfl ?_
      refine x_goto (tgt := 19) C dX5_shareBits_36 (by decide) ?_
      refine x_fload_n C dX5_shareBits_19 1 rfl ?_
      refine x_fconst1 (v := 1065353216) C dX5_shareBits_20 (by decide +kernel) ?_
      refine x_fcmp (v := 1) C dX5_shareBits_21 (by decide +kernel) ?_
      refine x_if_ge (tgt := 39) C dX5_shareBits_22 (by decide) (fun c_22_2 => ?_) (fun c_22_2 => absurd c_22_2 (by decide))
      refine x_fload_n C dX5_shareBits_39 1 rfl ?_
      refine x_ldcf (v := 1258291200) C kw_con_X5_203 dX5_shareBits_40 ?_
      refine x_fmul (v := 1260388352) C dX5_shareBits_42 (by decide +kernel) (by decide +kernel) ?_
      refine x_f2i (v := 10485760) C dX5_shareBits_43 (by decide +kernel) ?_
      refine x_ldc (v := 8388608) C kw_con_X5_204 dX5_shareBits_44 ?_
      refine x_isub C dX5_shareBits_46 ?_
      refine Wd.cast (w1 := []) (lv1 := [(3, .int 126), (2, .float 1067450368), (0, .int 5), (1, .int 8)]) (st1 := [.int 2097152]) rfl rfl rfl ?_
      refine x_istore (lv1 := [(4, .int 2097152), (3, .int 126), (2, .float 1067450368), (0, .int 5), (1, .int 8)]) C dX5_shareBits_47 (by decide) rfl ?_
      refine x_iload_n C dX5_shareBits_49 1 rfl ?_
      refine x_bipush (v := 23) C dX5_shareBits_50 (by decide) ?_
      refine x_ishl C dX5_shareBits_52 ?_
      refine x_iload C dX5_shareBits_53 0 rfl ?_
      refine x_ior C dX5_shareBits_55 ?_
      exact x_iret C hr hlocks rfl () (by decide +kernel) (gEq.rf _) dX5_shareBits_56
    · refine Wd.cast (w1 := []) (lv1 := [(0, .int 6), (1, .int 8)]) rfl rfl rfl ?_
      refine x_iload_n C dX5_shareBits_0 0 rfl ?_
      refine x_if_le (tgt := 8) C dX5_shareBits_1 (by decide) (fun c_1 => absurd c_1 (by decide)) (fun c_1 => ?_)
      refine x_iload_n C dX5_shareBits_4 1 rfl ?_
      refine x_if_gt (tgt := 10) C dX5_shareBits_5 (by decide) (fun c_5 => ?_) (fun c_5 => absurd c_5 (by decide))
      refine x_iload_n C dX5_shareBits_10 0 rfl ?_
      refine x_i2f (v := 1086324736) C dX5_shareBits_11 (by decide +kernel) ?_
      refine x_iload_n C dX5_shareBits_12 1 rfl ?_
      refine x_i2f (v := 1090519040) C dX5_shareBits_13 (by decide +kernel) ?_
      refine x_fdiv (v := 1061158912) C dX5_shareBits_14 (by decide +kernel) (by decide +kernel) ?_
      refine x_fstore_n (lv1 := [(2, .float 1061158912), (0, .int 6), (1, .int 8)]) C dX5_shareBits_15 (by decide) rfl ?_
      refine x_bipush (v := 127) C dX5_shareBits_16 (by decide) ?_
      refine x_istore_n (lv1 := [(3, .int 127), (2, .float 1061158912), (0, .int 6), (1, .int 8)]) C dX5_shareBits_18 (by decide) rfl ?_
      refine x_fload_n C dX5_shareBits_19 1 rfl ?_
      refine x_fconst1 (v := 1065353216) C dX5_shareBits_20 (by decide +kernel) ?_
      refine x_fcmp (v := (-1)) C dX5_shareBits_21 (by decide +kernel) ?_
      refine x_if_ge (tgt := 39) C dX5_shareBits_22 (by decide) (fun c_22 => absurd c_22 (by decide)) (fun c_22 => ?_)
      refine x_iload_n C dX5_shareBits_25 0 rfl ?_
      refine x_if_le (tgt := 39) C dX5_shareBits_26 (by decide) (fun c_26 => absurd c_26 (by decide)) (fun c_26 => ?_)
      refine x_fload_n C dX5_shareBits_29 1 rfl ?_
      refine x_fconst2 (v := 1073741824) C dX5_shareBits_30 (by decide +kernel) ?_
      refine x_fmul (v := 1069547520) C dX5_shareBits_31 (by decide +kernel) (by decide +kernel) ?_
      refine x_fstore_n (lv1 := [(2, .float 1069547520), (3, .int 127), (0, .int 6), (1, .int 8)]) C dX5_shareBits_32 (by decide) rfl ?_
      refine x_iinc (j := 1) (v := 126) (lv1 := [(3, .int 126), (2, .float 1069547520), (0, .int 6), (1, .int 8)]) C dX5_shareBits_33 rfl (by decide) (by decide) rfl ?_
      refine x_goto (tgt := 19) C dX5_shareBits_36 (by decide) ?_
      refine x_fload_n C dX5_shareBits_19 1 rfl ?_
      refine x_fconst1 (v := 1065353216) C dX5_shareBits_20 (by decide +kernel) ?_
      refine x_fcmp (v := 1) C dX5_shareBits_21 (by decide +kernel) ?_
      refine x_if_ge (tgt := 39) C dX5_shareBits_22 (by decide) (fun c_22_2 => ?_) (fun c_22_2 => absurd c_22_2 (by decide))
      refine x_fload_n C dX5_shareBits_39 1 rfl ?_
      refine x_ldcf (v := 1258291200) C kw_con_X5_203 dX5_shareBits_40 ?_
      refine x_fmul (v := 1262485504) C dX5_shareBits_42 (by decide +kernel) (by decide +kernel) ?_
      refine x_f2i (v := 12582912) C dX5_shareBits_43 (by decide +kernel) ?_
      refine x_ldc (v := 8388608) C kw_con_X5_204 dX5_shareBits_44 ?_
      refine x_isub C dX5_shareBits_46 ?_
      refine Wd.cast (w1 := []) (lv1 := [(3, .int 126), (2, .float 1069547520), (0, .int 6), (1, .int 8)]) (st1 := [.int 4194304]) rfl rfl rfl ?_
      refine x_istore (lv1 := [(4, .int 4194304), (3, .int 126), (2, .float 1069547520), (0, .int 6), (1, .int 8)]) C dX5_shareBits_47 (by decide) rfl ?_
      refine x_iload_n C dX5_shareBits_49 1 rfl ?_
      refine x_bipush (v := 23) C dX5_shareBits_50 (by decide) ?_
      refine x_ishl C dX5_shareBits_52 ?_
      refine x_iload C dX5_shareBits_53 0 rfl ?_
      refine x_ior C dX5_shareBits_55 ?_
      exact x_iret C hr hlocks rfl () (by decide +kernel) (gEq.rf _) dX5_shareBits_56
    · refine Wd.cast (w1 := []) (lv1 := [(0, .int 7), (1, .int 8)]) rfl rfl rfl ?_
      refine x_iload_n C dX5_shareBits_0 0 rfl ?_
      refine x_if_le (tgt := 8) C dX5_shareBits_1 (by decide) (fun c_1 => absurd c_1 (by decide)) (fun c_1 => ?_)
      refine x_iload_n C dX5_shareBits_4 1 rfl ?_
      refine x_if_gt (tgt := 10) C dX5_shareBits_5 (by decide) (fun c_5 => ?_) (fun c_5 => absurd c_5 (by decide))
      refine x_iload_n C dX5_shareBits_10 0 rfl ?_
      refine x_i2f (v := 1088421888) C dX5_shareBits_11 (by decide +kernel) ?_
      refine x_iload_n C dX5_shareBits_12 1 rfl ?_
      refine x_i2f (v := 1090519040) C dX5_shareBits_13 (by decide +kernel) ?_
      refine x_fdiv (v := 1063256064) C dX5_shareBits_14 (by decide +kernel) (by decide +kernel) ?_
      refine x_fstore_n (lv1 := [(2, .float 1063256064), (0, .int 7), (1, .int 8)]) C dX5_shareBits_15 (by decide) rfl ?_
      refine x_bipush (v := 127) C dX5_shareBits_16 (by decide) ?_
      refine x_istore_n (lv1 := [(3, .int 127), (2, .float 1063256064), (0, .int 7), (1, .int 8)]) C dX5_shareBits_18 (by decide) rfl ?_
      refine x_fload_n C dX5_shareBits_19 1 rfl ?_
      refine x_fconst1 (v := 1065353216) C dX5_shareBits_20 (by decide +kernel) ?_
      refine x_fcmp (v := (-1)) C dX5_shareBits_21 (by decide +kernel) ?_
      refine x_if_ge (tgt := 39) C dX5_shareBits_22 (by decide) (fun c_22 => absurd c_22 (by decide)) (fun c_22 => ?_)
      refine x_iload_n C dX5_shareBits_25 0 rfl ?_
      refine x_if_le (tgt := 39) C dX5_shareBits_26 (by decide) (fun c_26 => absurd c_26 (by decide)) (fun c_26 => ?_)
      refine x_fload_n C dX5_shareBits_29 1 rfl ?_
      refine x_fconst2 (v := 1073741824) C dX5_shareBits_30 (by decide +kernel) ?_
      refine x_fmul (v := 1071644672) C dX5_shareBits_31 (by decide +kernel) (by decide +kernel) ?_
      refine x_fstore_n (lv1 := [(2, .float 1071644672), (3, .int 127), (0, .int 7), (1, .int 8)]) C dX5_shareBits_32 (by decide) rfl ?_
      refine x_iinc (j := 1) (v := 126) (lv1 := [(3, .int 126), (2, .float 1071644672), (0, .int 7), (1, .int 8)]) C dX5_shareBits_33 rfl (by decide) (by decide) rfl ?_
      refine x_goto (tgt := 19) C dX5_shareBits_36 (by decide) ?_
      refine x_fload_n C dX5_shareBits_19 1 rfl ?_
      refine x_fconst1 (v := 1065353216) C dX5_shareBits_20 (by decide +kernel) ?_
      refine x_fcmp (v := 1) C dX5_shareBits_21 (by decide +kernel) ?_
      refine x_if_ge (tgt := 39) C dX5_shareBits_22 (by decide) (fun c_22_2 => ?_) (fun c_22_2 => absurd c_22_2 (by decide))
      refine x_fload_n C dX5_shareBits_39 1 rfl ?_
      refine x_ldcf (v := 1258291200) C kw_con_X5_203 dX5_shareBits_40 ?_
      refine x_fmul (v := 1264582656) C dX5_shareBits_42 (by decide +kernel) (by decide +kernel) ?_
      refine x_f2i (v := 14680064) C dX5_shareBits_43 (by decide +kernel) ?_
      refine x_ldc (v := 8388608) C kw_con_X5_204 dX5_shareBits_44 ?_
      refine x_isub C dX5_shareBits_46 ?_
      refine Wd.cast (w1 := []) (lv1 := [(3, .int 126), (2, .float 1071644672), (0, .int 7), (1, .int 8)]) (st1 := [.int 6291456]) rfl rfl rfl ?_
      refine x_istore (lv1 := [(4, .int 6291456), (3, .int 126), (2, .float 1071644672), (0, .int 7), (1, .int 8)]) C dX5_shareBits_47 (by decide) rfl ?_
      refine x_iload_n C dX5_shareBits_49 1 rfl ?_
      refine x_bipush (v := 23) C dX5_shareBits_50 (by decide) ?_
      refine x_ishl C dX5_shareBits_52 ?_
      refine x_iload C dX5_shareBits_53 0 rfl ?_
      refine x_ior C dX5_shareBits_55 ?_
      exact x_iret C hr hlocks rfl () (by decide +kernel) (gEq.rf _) dX5_shareBits_56
    · refine Wd.cast (w1 := []) (lv1 := [(0, .int 8), (1, .int 8)]) rfl rfl rfl ?_
      refine x_iload_n C dX5_shareBits_0 0 rfl ?_
      refine x_if_le (tgt := 8) C dX5_shareBits_1 (by decide) (fun c_1 => absurd c_1 (by decide)) (fun c_1 => ?_)
      refine x_iload_n C dX5_shareBits_4 1 rfl ?_
      refine x_if_gt (tgt := 10) C dX5_shareBits_5 (by decide) (fun c_5 => ?_) (fun c_5 => absurd c_5 (by decide))
      refine x_iload_n C dX5_shareBits_10 0 rfl ?_
      refine x_i2f (v := 1090519040) C dX5_shareBits_11 (by decide +kernel) ?_
      refine x_iload_n C dX5_shareBits_12 1 rfl ?_
      refine x_i2f (v := 1090519040) C dX5_shareBits_13 (by decide +kernel) ?_
      refine x_fdiv (v := 1065353216) C dX5_shareBits_14 (by decide +kernel) (by decide +kernel) ?_
      refine x_fstore_n (lv1 := [(2, .float 1065353216), (0, .int 8), (1, .int 8)]) C dX5_shareBits_15 (by decide) rfl ?_
      refine x_bipush (v := 127) C dX5_shareBits_16 (by decide) ?_
      refine x_istore_n (lv1 := [(3, .int 127), (2, .float 1065353216), (0, .int 8), (1, .int 8)]) C dX5_shareBits_18 (by decide) rfl ?_
      refine x_fload_n C dX5_shareBits_19 1 rfl ?_
      refine x_fconst1 (v := 1065353216) C dX5_shareBits_20 (by decide +kernel) ?_
      refine x_fcmp (v := 0) C dX5_shareBits_21 (by decide +kernel) ?_
      refine x_if_ge (tgt := 39) C dX5_shareBits_22 (by decide) (fun c_22 => ?_) (fun c_22 => absurd c_22 (by decide))
      refine x_fload_n C dX5_shareBits_39 1 rfl ?_
      refine x_ldcf (v := 1258291200) C kw_con_X5_203 dX5_shareBits_40 ?_
      refine x_fmul (v := 1258291200) C dX5_shareBits_42 (by decide +kernel) (by decide +kernel) ?_
      refine x_f2i (v := 8388608) C dX5_shareBits_43 (by decide +kernel) ?_
      refine x_ldc (v := 8388608) C kw_con_X5_204 dX5_shareBits_44 ?_
      refine x_isub C dX5_shareBits_46 ?_
      refine Wd.cast (w1 := []) (lv1 := [(3, .int 127), (2, .float 1065353216), (0, .int 8), (1, .int 8)]) (st1 := [.int 0]) rfl rfl rfl ?_
      refine x_istore (lv1 := [(4, .int 0), (3, .int 127), (2, .float 1065353216), (0, .int 8), (1, .int 8)]) C dX5_shareBits_47 (by decide) rfl ?_
      refine x_iload_n C dX5_shareBits_49 1 rfl ?_
      refine x_bipush (v := 23) C dX5_shareBits_50 (by decide) ?_
      refine x_ishl C dX5_shareBits_52 ?_
      refine x_iload C dX5_shareBits_53 0 rfl ?_
      refine x_ior C dX5_shareBits_55 ?_
      exact x_iret C hr hlocks rfl () (by decide +kernel) (gEq.rf _) dX5_shareBits_56
