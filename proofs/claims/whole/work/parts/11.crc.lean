def crcS (v : Int32) : Nat → Int32
  | 0 => 0
  | n + 1 => (crcS v n >>> ((1 : Int32) &&& 31)) ^^^ (if ((v >>> (nI n &&& 31)) ^^^ crcS v n) &&& 1 = 1 then 12 else 0)
theorem crcS_s (v : Int32) (n : Nat) : crcS v (n + 1) = (crcS v n >>> ((1 : Int32) &&& 31)) ^^^ (if ((v >>> (nI n &&& 31)) ^^^ crcS v n) &&& 1 = 1 then 12 else 0) := rfl
theorem crc_mix (a b z : Int32) : (a &&& z) ^^^ (b &&& z) = (a ^^^ b) &&& z := by
  apply Int32.toBitVec_inj.1
  simp only [Int32.toBitVec_xor, Int32.toBitVec_and]
  ext i hi
  simp only [BitVec.getElem_xor, BitVec.getElem_and]
  generalize a.toBitVec[i] = x
  generalize b.toBitVec[i] = y
  generalize z.toBitVec[i] = t
  cases x <;> cases y <;> cases t <;> rfl
/-- the CRC of bits 0 to 11 -/
def crcP (v : Int32) : Int32 := crcS v 12
set_option maxHeartbeats 4000000 in
set_option maxRecDepth 100000 in
theorem c_X5_crcOf (l : Launch) (E : gE) (v : Int32)  : CtI l E yX5_crcOf prog_1_method_38_code 4 (some .int) 1 21 0 0 [.int v] [] (fun r (_ : Unit) => r = crcP v) (fun _ => []) := by
  refine CtI.start (by decide) (Nat.le_of_ble_eq_true rfl) ?_
  intro p_ e_ s_ m_ below_ meth_ c_ A_ C hr hlocks hnm
  refine Wd.cast (lv1 := [(0, .int v)]) rfl rfl rfl ?_
  refine x_iconst (v := 0) C dX5_crcOf_0 (by decide) ?_
  refine x_istore_n (lv1 := [(1, .int 0), (0, .int v)]) C dX5_crcOf_1 (by decide) rfl ?_
  refine x_iconst (v := 0) C dX5_crcOf_2 (by decide) ?_
  refine x_istore_n (lv1 := [(2, .int 0), (1, .int 0), (0, .int v)]) C dX5_crcOf_3 (by decide) rfl ?_
  refine Wd.locs (lv1 := [(0, .int v), (1, .int 0), (2, .int 0)]) [2, 1, 0] rfl ?_
  refine Wd.cast (w1 := []) (lv1 := [(0, .int v), (1, .int (crcS v 0)), (2, .int (nI 0))]) rfl rfl rfl ?_
  refine Wd.up (W1 := fun k => []) (LV := fun k => [(0, .int v), (1, .int (crcS v k)), (2, .int (nI k))]) (fun k => True) 0 12 (by omega) (trivial) (fun hI => ?_) (fun k hk0 hk hI ih => ?_)
  · refine Wd.cast (w1 := []) (lv1 := [(0, .int v), (1, .int (crcS v 12)), (2, .int (nI 12))]) rfl rfl rfl ?_
    refine x_iload_n C dX5_crcOf_4 2 rfl ?_
    refine x_bipush (v := 12) C dX5_crcOf_5 (by decide) ?_
    refine x_icmp_ge (tgt := 40) C dX5_crcOf_7 (by decide) (fun c_7 => ?_) (fun c_7 => absurd (by decide) c_7)
    refine x_iload_n C dX5_crcOf_40 1 rfl ?_
    exact x_iret C hr hlocks rfl () rfl (gEq.rf _) dX5_crcOf_41
  · refine Wd.cast (w1 := []) (lv1 := [(0, .int v), (1, .int (crcS v k)), (2, .int (nI k))]) rfl rfl rfl ?_
    refine x_iload_n C dX5_crcOf_4 2 rfl ?_
    refine x_bipush (v := 12) C dX5_crcOf_5 (by decide) ?_
    refine x_icmp_ge (tgt := 40) C dX5_crcOf_7 (by decide) (fun c_7 => absurd c_7 (show ¬ nI 12 ≤ nI k from nI_ge hk (by decide))) (fun c_7 => ?_)
    refine x_iload_n C dX5_crcOf_10 0 rfl ?_
    refine x_iload_n C dX5_crcOf_11 2 rfl ?_
    refine x_callSI (wc := []) (wr := []) (As := [.int v, .int (nI k)]) (rest := []) C (c_X5_bitAt l E v (nI k) ) (gWS C kw_ml_X5_198 kw_st_X5_bitAt kw_ini_X5 kw_code_X5_bitAt ga_X5_bitAt ⟨Nat.le_of_ble_eq_true rfl, Nat.le_of_ble_eq_true rfl⟩) [] [] [] rfl rfl rfl rfl (by decide) (fun _ => []) rfl (fun _ => rfl) rfl (Nat.le_of_ble_eq_true rfl) ⟨Nat.le_of_ble_eq_true rfl, Nat.le_of_ble_eq_true rfl⟩ rfl dX5_crcOf_12 (fun r_1 _ e_2 => ?_)
    subst e_2
    refine x_iload_n C dX5_crcOf_15 1 rfl ?_
    refine x_iconst (v := 1) C dX5_crcOf_16 (by decide) ?_
    refine x_iand C dX5_crcOf_17 ?_
    refine x_ixor C dX5_crcOf_18 ?_
    refine x_istore_n (lv1 := [(3, .int (((v >>> ((nI k) &&& 31)) &&& 1) ^^^ ((crcS v k) &&& 1))), (0, .int v), (1, .int (crcS v k)), (2, .int (nI k))]) C dX5_crcOf_19 (by decide) rfl ?_
    refine x_iload_n C dX5_crcOf_20 2 rfl ?_
    refine x_iconst (v := 1) C dX5_crcOf_21 (by decide) ?_
    refine x_ishr C dX5_crcOf_22 ?_
    refine x_istore_n (lv1 := [(1, .int ((crcS v k) >>> (1 &&& 31))), (3, .int (((v >>> ((nI k) &&& 31)) &&& 1) ^^^ ((crcS v k) &&& 1))), (0, .int v), (2, .int (nI k))]) C dX5_crcOf_23 (by decide) rfl ?_
    refine x_iload_n C dX5_crcOf_24 1 rfl ?_
    refine x_iconst (v := 1) C dX5_crcOf_25 (by decide) ?_
    refine x_icmp_ne (tgt := 34) C dX5_crcOf_26 (by decide) (fun c_26 => ?_) (fun c_26 => ?_)
    · refine x_iinc (j := 3) (v := (nI (k + 1))) (lv1 := [(2, .int (nI (k + 1))), (1, .int ((crcS v k) >>> (1 &&& 31))), (3, .int (((v >>> ((nI k) &&& 31)) &&& 1) ^^^ ((crcS v k) &&& 1))), (0, .int v)]) C dX5_crcOf_34 rfl (nI_1 _) (by decide) rfl ?_
      refine x_goto (tgt := 4) C dX5_crcOf_37 (by decide) ?_
      refine Wd.locs (lv1 := [(0, .int v), (1, .int ((crcS v k) >>> (1 &&& 31))), (2, .int (nI (k + 1)))]) [3, 1, 0] rfl ?_
      have w_3 : ((crcS v k) >>> (1 &&& 31)) = crcS v (k + 1) := (by rw [crcS_s, if_neg (by rw [← crc_mix]; exact c_26), Int32.xor_zero])
      exact Wd.cast (w1 := []) (lv1 := [(0, .int v), (1, .int (crcS v (k + 1))), (2, .int (nI (k + 1)))]) rfl (by first | (rw [w_3]; done) | (rw [← w_3]; done) | simp only [w_3]) rfl (ih trivial)
    · refine x_iload_n C dX5_crcOf_29 0 rfl ?_
      refine x_bipush (v := 12) C dX5_crcOf_30 (by decide) ?_
      refine x_ixor C dX5_crcOf_32 ?_
      refine x_istore_n (lv1 := [(1, .int (((crcS v k) >>> (1 &&& 31)) ^^^ 12)), (3, .int (((v >>> ((nI k) &&& 31)) &&& 1) ^^^ ((crcS v k) &&& 1))), (0, .int v), (2, .int (nI k))]) C dX5_crcOf_33 (by decide) rfl ?_
      refine x_iinc (j := 3) (v := (nI (k + 1))) (lv1 := [(2, .int (nI (k + 1))), (1, .int (((crcS v k) >>> (1 &&& 31)) ^^^ 12)), (3, .int (((v >>> ((nI k) &&& 31)) &&& 1) ^^^ ((crcS v k) &&& 1))), (0, .int v)]) C dX5_crcOf_34 rfl (nI_1 _) (by decide) rfl ?_
      refine x_goto (tgt := 4) C dX5_crcOf_37 (by decide) ?_
      refine Wd.locs (lv1 := [(0, .int v), (1, .int (((crcS v k) >>> (1 &&& 31)) ^^^ 12)), (2, .int (nI (k + 1)))]) [3, 1, 0] rfl ?_
      have w_4 : (((crcS v k) >>> (1 &&& 31)) ^^^ 12) = crcS v (k + 1) := (by rw [crcS_s, if_pos (by rw [← crc_mix]; exact c_26)])
      exact Wd.cast (w1 := []) (lv1 := [(0, .int v), (1, .int (crcS v (k + 1))), (2, .int (nI (k + 1)))]) rfl (by first | (rw [w_4]; done) | (rw [← w_4]; done) | simp only [w_4]) rfl (ih trivial)
set_option maxHeartbeats 4000000 in
set_option maxRecDepth 100000 in
theorem c_X6_crcOf (l : Launch) (E : gE) (v : Int32)  : CtI l E yX6_crcOf prog_8_method_10_code 4 (some .int) 0 0 0 0 [.int v] [] (fun r (_ : Unit) => r = crcP v) (fun _ => []) := by
  refine CtI.start (by decide) (Nat.le_of_ble_eq_true rfl) ?_
  intro p_ e_ s_ m_ below_ meth_ c_ A_ C hr hlocks hnm
  refine Wd.cast (lv1 := [(0, .int v)]) rfl rfl rfl ?_
  refine x_iconst (v := 0) C dX6_crcOf_0 (by decide) ?_
  refine x_istore_n (lv1 := [(1, .int 0), (0, .int v)]) C dX6_crcOf_1 (by decide) rfl ?_
  refine x_iconst (v := 0) C dX6_crcOf_2 (by decide) ?_
  refine x_istore_n (lv1 := [(2, .int 0), (1, .int 0), (0, .int v)]) C dX6_crcOf_3 (by decide) rfl ?_
  refine Wd.locs (lv1 := [(0, .int v), (1, .int 0), (2, .int 0)]) [2, 1, 0] rfl ?_
  refine Wd.cast (w1 := []) (lv1 := [(0, .int v), (1, .int (crcS v 0)), (2, .int (nI 0))]) rfl rfl rfl ?_
  refine Wd.up (W1 := fun k => []) (LV := fun k => [(0, .int v), (1, .int (crcS v k)), (2, .int (nI k))]) (fun k => True) 0 12 (by omega) (trivial) (fun hI => ?_) (fun k hk0 hk hI ih => ?_)
  · refine Wd.cast (w1 := []) (lv1 := [(0, .int v), (1, .int (crcS v 12)), (2, .int (nI 12))]) rfl rfl rfl ?_
    refine x_iload_n C dX6_crcOf_4 2 rfl ?_
    refine x_bipush (v := 12) C dX6_crcOf_5 (by decide) ?_
    refine x_icmp_ge (tgt := 42) C dX6_crcOf_7 (by decide) (fun c_7 => ?_) (fun c_7 => absurd (by decide) c_7)
    refine x_iload_n C dX6_crcOf_42 1 rfl ?_
    exact x_iret C hr hlocks rfl () rfl (gEq.rf _) dX6_crcOf_43
  · refine Wd.cast (w1 := []) (lv1 := [(0, .int v), (1, .int (crcS v k)), (2, .int (nI k))]) rfl rfl rfl ?_
    refine x_iload_n C dX6_crcOf_4 2 rfl ?_
    refine x_bipush (v := 12) C dX6_crcOf_5 (by decide) ?_
    refine x_icmp_ge (tgt := 42) C dX6_crcOf_7 (by decide) (fun c_7 => absurd c_7 (show ¬ nI 12 ≤ nI k from nI_ge hk (by decide))) (fun c_7 => ?_)
    refine x_iload_n C dX6_crcOf_10 0 rfl ?_
    refine x_iload_n C dX6_crcOf_11 2 rfl ?_
    refine x_ishr C dX6_crcOf_12 ?_
    refine x_iload_n C dX6_crcOf_13 1 rfl ?_
    refine x_ixor C dX6_crcOf_14 ?_
    refine x_iconst (v := 1) C dX6_crcOf_15 (by decide) ?_
    refine x_iand C dX6_crcOf_16 ?_
    refine x_istore_n (lv1 := [(3, .int (((v >>> ((nI k) &&& 31)) ^^^ (crcS v k)) &&& 1)), (0, .int v), (1, .int (crcS v k)), (2, .int (nI k))]) C dX6_crcOf_17 (by decide) rfl ?_
    refine x_iload_n C dX6_crcOf_18 2 rfl ?_
    refine x_iconst (v := 1) C dX6_crcOf_19 (by decide) ?_
    refine x_ishr C dX6_crcOf_20 ?_
    refine x_istore_n (lv1 := [(1, .int ((crcS v k) >>> (1 &&& 31))), (3, .int (((v >>> ((nI k) &&& 31)) ^^^ (crcS v k)) &&& 1)), (0, .int v), (2, .int (nI k))]) C dX6_crcOf_21 (by decide) rfl ?_
    refine x_iload_n C dX6_crcOf_22 0 rfl ?_
    refine x_iload_n C dX6_crcOf_23 1 rfl ?_
    refine x_iconst (v := 1) C dX6_crcOf_24 (by decide) ?_
    refine x_icmp_ne (tgt := 33) C dX6_crcOf_25 (by decide) (fun c_25 => ?_) (fun c_25 => ?_)
    · refine x_iconst (v := 0) C dX6_crcOf_33 (by decide) ?_
      refine x_ixor C dX6_crcOf_34 ?_
      refine x_istore_n (lv1 := [(1, .int (((crcS v k) >>> (1 &&& 31)) ^^^ 0)), (3, .int (((v >>> ((nI k) &&& 31)) ^^^ (crcS v k)) &&& 1)), (0, .int v), (2, .int (nI k))]) C dX6_crcOf_35 (by decide) rfl ?_
      refine x_iinc (j := 3) (v := (nI (k + 1))) (lv1 := [(2, .int (nI (k + 1))), (1, .int (((crcS v k) >>> (1 &&& 31)) ^^^ 0)), (3, .int (((v >>> ((nI k) &&& 31)) ^^^ (crcS v k)) &&& 1)), (0, .int v)]) C dX6_crcOf_36 rfl (nI_1 _) (by decide) rfl ?_
      refine x_goto (tgt := 4) C dX6_crcOf_39 (by decide) ?_
      refine Wd.locs (lv1 := [(0, .int v), (1, .int (((crcS v k) >>> (1 &&& 31)) ^^^ 0)), (2, .int (nI (k + 1)))]) [3, 1, 0] rfl ?_
      have w_1 : (((crcS v k) >>> (1 &&& 31)) ^^^ 0) = crcS v (k + 1) := (by rw [crcS_s, if_neg c_25])
      exact Wd.cast (w1 := []) (lv1 := [(0, .int v), (1, .int (crcS v (k + 1))), (2, .int (nI (k + 1)))]) rfl (by first | (rw [w_1]; done) | (rw [← w_1]; done) | simp only [w_1]) rfl (ih trivial)
    · refine x_bipush (v := 12) C dX6_crcOf_28 (by decide) ?_
      refine x_goto (tgt := 34) C dX6_crcOf_30 (by decide) ?_
      refine x_ixor C dX6_crcOf_34 ?_
      refine x_istore_n (lv1 := [(1, .int (((crcS v k) >>> (1 &&& 31)) ^^^ 12)), (3, .int (((v >>> ((nI k) &&& 31)) ^^^ (crcS v k)) &&& 1)), (0, .int v), (2, .int (nI k))]) C dX6_crcOf_35 (by decide) rfl ?_
      refine x_iinc (j := 3) (v := (nI (k + 1))) (lv1 := [(2, .int (nI (k + 1))), (1, .int (((crcS v k) >>> (1 &&& 31)) ^^^ 12)), (3, .int (((v >>> ((nI k) &&& 31)) ^^^ (crcS v k)) &&& 1)), (0, .int v)]) C dX6_crcOf_36 rfl (nI_1 _) (by decide) rfl ?_
      refine x_goto (tgt := 4) C dX6_crcOf_39 (by decide) ?_
      refine Wd.locs (lv1 := [(0, .int v), (1, .int (((crcS v k) >>> (1 &&& 31)) ^^^ 12)), (2, .int (nI (k + 1)))]) [3, 1, 0] rfl ?_
      have w_2 : (((crcS v k) >>> (1 &&& 31)) ^^^ 12) = crcS v (k + 1) := (by rw [crcS_s, if_pos c_25])
      exact Wd.cast (w1 := []) (lv1 := [(0, .int v), (1, .int (crcS v (k + 1))), (2, .int (nI (k + 1)))]) rfl (by first | (rw [w_2]; done) | (rw [← w_2]; done) | simp only [w_2]) rfl (ih trivial)
set_option maxHeartbeats 4000000 in
set_option maxRecDepth 100000 in
theorem c_X5_romOf (l : Launch) (E : gE) (fam : Int32) (ser : Int32)  : CtI l E yX5_romOf prog_1_method_39_code 3 (some .int) 2 44 0 0 [.int fam, .int ser] [] (fun r (_ : Unit) => r = ((fam ||| (ser <<< (4 &&& 31))) ||| (crcP (fam ||| (ser <<< (4 &&& 31))) <<< (12 &&& 31)))) (fun _ => []) := by
  refine CtI.start (by decide) (Nat.le_of_ble_eq_true rfl) ?_
  intro p_ e_ s_ m_ below_ meth_ c_ A_ C hr hlocks hnm
  refine Wd.cast (lv1 := [(0, .int fam), (1, .int ser)]) rfl rfl rfl ?_
  refine x_iload_n C dX5_romOf_0 0 rfl ?_
  refine x_iload_n C dX5_romOf_1 1 rfl ?_
  refine x_iconst (v := 4) C dX5_romOf_2 (by decide) ?_
  refine x_ishl C dX5_romOf_3 ?_
  refine x_ior C dX5_romOf_4 ?_
  refine x_istore_n (lv1 := [(2, .int (fam ||| (ser <<< (4 &&& 31)))), (0, .int fam), (1, .int ser)]) C dX5_romOf_5 (by decide) rfl ?_
  refine x_iload_n C dX5_romOf_6 0 rfl ?_
  refine x_iload_n C dX5_romOf_7 0 rfl ?_
  refine x_callSI (wc := []) (wr := []) (As := [.int (fam ||| (ser <<< (4 &&& 31)))]) (rest := [.int (fam ||| (ser <<< (4 &&& 31)))]) C (c_X5_crcOf l E (fam ||| (ser <<< (4 &&& 31))) ) (gWS C kw_ml_X5_90 kw_st_X5_crcOf kw_ini_X5 kw_code_X5_crcOf ga_X5_crcOf ⟨Nat.le_of_ble_eq_true rfl, Nat.le_of_ble_eq_true rfl⟩) [] [] [] rfl rfl rfl rfl (by decide) (fun _ => []) rfl (fun _ => rfl) rfl (Nat.le_of_ble_eq_true rfl) ⟨Nat.le_of_ble_eq_true rfl, Nat.le_of_ble_eq_true rfl⟩ rfl dX5_romOf_8 (fun r_1 _ e_2 => ?_)
  subst e_2
  refine x_bipush (v := 12) C dX5_romOf_11 (by decide) ?_
  refine x_ishl C dX5_romOf_13 ?_
  refine x_ior C dX5_romOf_14 ?_
  exact x_iret C hr hlocks rfl () rfl (gEq.rf _) dX5_romOf_15
