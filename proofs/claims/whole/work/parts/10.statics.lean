set_option maxHeartbeats 4000000 in
set_option maxRecDepth 100000 in
theorem c_X5_isWithin (l : Launch) (E : gE) (v : Int32) (lo : Int32) (hi : Int32)  : CtI l E yX5_isWithin prog_1_method_36_code 3 (some .boolean) 0 0 0 0 [.int v, .int lo, .int hi] [] (fun r (_ : Unit) => r = (if lo ≤ v ∧ v ≤ hi then 1 else 0)) (fun _ => []) := by
  refine CtI.start (by decide) (Nat.le_of_ble_eq_true rfl) ?_
  intro p_ e_ s_ m_ below_ meth_ c_ A_ C hr hlocks hnm
  refine Wd.cast (lv1 := [(0, .int v), (1, .int lo), (2, .int hi)]) rfl rfl rfl ?_
  refine x_iload_n C dX5_isWithin_0 0 rfl ?_
  refine x_iload_n C dX5_isWithin_1 1 rfl ?_
  refine x_icmp_lt (tgt := 14) C dX5_isWithin_2 (by decide) (fun c_2 => ?_) (fun c_2 => ?_)
  · refine x_iconst (v := 0) C dX5_isWithin_14 (by decide) ?_
    exact x_iret C hr hlocks rfl () (by first | exact (if_pos (by (try simp only [Int32.lt_iff_toInt_lt, Int32.le_iff_toInt_le, ← Int32.toInt_inj] at *); omega)).symm | exact (if_neg (by (try simp only [Int32.lt_iff_toInt_lt, Int32.le_iff_toInt_le, ← Int32.toInt_inj] at *); omega)).symm) (gEq.rf _) dX5_isWithin_15
  · refine x_iload_n C dX5_isWithin_5 0 rfl ?_
    refine x_iload_n C dX5_isWithin_6 2 rfl ?_
    refine x_icmp_gt (tgt := 14) C dX5_isWithin_7 (by decide) (fun c_7 => ?_) (fun c_7 => ?_)
    · refine x_iconst (v := 0) C dX5_isWithin_14 (by decide) ?_
      exact x_iret C hr hlocks rfl () (by first | exact (if_pos (by (try simp only [Int32.lt_iff_toInt_lt, Int32.le_iff_toInt_le, ← Int32.toInt_inj] at *); omega)).symm | exact (if_neg (by (try simp only [Int32.lt_iff_toInt_lt, Int32.le_iff_toInt_le, ← Int32.toInt_inj] at *); omega)).symm) (gEq.rf _) dX5_isWithin_15
    · refine x_iconst (v := 1) C dX5_isWithin_10 (by decide) ?_
      refine x_goto (tgt := 15) C dX5_isWithin_11 (by decide) ?_
      exact x_iret C hr hlocks rfl () (by first | exact (if_pos (by (try simp only [Int32.lt_iff_toInt_lt, Int32.le_iff_toInt_le, ← Int32.toInt_inj] at *); omega)).symm | exact (if_neg (by (try simp only [Int32.lt_iff_toInt_lt, Int32.le_iff_toInt_le, ← Int32.toInt_inj] at *); omega)).symm) (gEq.rf _) dX5_isWithin_15
set_option maxHeartbeats 4000000 in
set_option maxRecDepth 100000 in
theorem c_X6_in (l : Launch) (E : gE) (v : Int32) (lo : Int32) (hi : Int32)  : CtI l E yX6_in prog_8_method_2_code 3 (some .boolean) 0 0 0 0 [.int v, .int lo, .int hi] [] (fun r (_ : Unit) => r = (if lo ≤ v ∧ v ≤ hi then 1 else 0)) (fun _ => []) := by
  refine CtI.start (by decide) (Nat.le_of_ble_eq_true rfl) ?_
  intro p_ e_ s_ m_ below_ meth_ c_ A_ C hr hlocks hnm
  refine Wd.cast (lv1 := [(0, .int v), (1, .int lo), (2, .int hi)]) rfl rfl rfl ?_
  refine x_iload_n C dX6_in_0 0 rfl ?_
  refine x_iload_n C dX6_in_1 1 rfl ?_
  refine x_icmp_lt (tgt := 14) C dX6_in_2 (by decide) (fun c_2 => ?_) (fun c_2 => ?_)
  · refine x_iconst (v := 0) C dX6_in_14 (by decide) ?_
    exact x_iret C hr hlocks rfl () (by first | exact (if_pos (by (try simp only [Int32.lt_iff_toInt_lt, Int32.le_iff_toInt_le, ← Int32.toInt_inj] at *); omega)).symm | exact (if_neg (by (try simp only [Int32.lt_iff_toInt_lt, Int32.le_iff_toInt_le, ← Int32.toInt_inj] at *); omega)).symm) (gEq.rf _) dX6_in_15
  · refine x_iload_n C dX6_in_5 0 rfl ?_
    refine x_iload_n C dX6_in_6 2 rfl ?_
    refine x_icmp_gt (tgt := 14) C dX6_in_7 (by decide) (fun c_7 => ?_) (fun c_7 => ?_)
    · refine x_iconst (v := 0) C dX6_in_14 (by decide) ?_
      exact x_iret C hr hlocks rfl () (by first | exact (if_pos (by (try simp only [Int32.lt_iff_toInt_lt, Int32.le_iff_toInt_le, ← Int32.toInt_inj] at *); omega)).symm | exact (if_neg (by (try simp only [Int32.lt_iff_toInt_lt, Int32.le_iff_toInt_le, ← Int32.toInt_inj] at *); omega)).symm) (gEq.rf _) dX6_in_15
    · refine x_iconst (v := 1) C dX6_in_10 (by decide) ?_
      refine x_goto (tgt := 15) C dX6_in_11 (by decide) ?_
      exact x_iret C hr hlocks rfl () (by first | exact (if_pos (by (try simp only [Int32.lt_iff_toInt_lt, Int32.le_iff_toInt_le, ← Int32.toInt_inj] at *); omega)).symm | exact (if_neg (by (try simp only [Int32.lt_iff_toInt_lt, Int32.le_iff_toInt_le, ← Int32.toInt_inj] at *); omega)).symm) (gEq.rf _) dX6_in_15
set_option maxHeartbeats 4000000 in
set_option maxRecDepth 100000 in
theorem c_X5_bitAt (l : Launch) (E : gE) (v : Int32) (k : Int32)  : CtI l E yX5_bitAt prog_1_method_37_code 2 (some .int) 0 0 0 0 [.int v, .int k] [] (fun r (_ : Unit) => r = (v >>> (k &&& 31)) &&& 1) (fun _ => []) := by
  refine CtI.start (by decide) (Nat.le_of_ble_eq_true rfl) ?_
  intro p_ e_ s_ m_ below_ meth_ c_ A_ C hr hlocks hnm
  refine Wd.cast (lv1 := [(0, .int v), (1, .int k)]) rfl rfl rfl ?_
  refine x_iload_n C dX5_bitAt_0 0 rfl ?_
  refine x_iload_n C dX5_bitAt_1 1 rfl ?_
  refine x_ishr C dX5_bitAt_2 ?_
  refine x_iconst (v := 1) C dX5_bitAt_3 (by decide) ?_
  refine x_iand C dX5_bitAt_4 ?_
  exact x_iret C hr hlocks rfl () rfl (gEq.rf _) dX5_bitAt_5
def f_X6_magnitude_r (v : Int32) : Int32 := if 0 ≤ v then v else (0 - v)
set_option maxHeartbeats 4000000 in
set_option maxRecDepth 100000 in
theorem c_X6_magnitude (l : Launch) (E : gE) (v : Int32)  : CtI l E yX6_magnitude prog_8_method_14_code 1 (some .int) 0 0 0 0 [.int v] [] (fun r (_ : Unit) => r = f_X6_magnitude_r v) (fun _ => []) := by
  refine CtI.start (by decide) (Nat.le_of_ble_eq_true rfl) ?_
  intro p_ e_ s_ m_ below_ meth_ c_ A_ C hr hlocks hnm
  refine Wd.cast (lv1 := [(0, .int v)]) rfl rfl rfl ?_
  refine x_iload_n C dX6_magnitude_0 0 rfl ?_
  refine x_if_ge (tgt := 9) C dX6_magnitude_1 (by decide) (fun c_1 => ?_) (fun c_1 => ?_)
  · refine x_iload_n C dX6_magnitude_9 0 rfl ?_
    exact x_iret C hr hlocks rfl () (Eq.symm (by unfold f_X6_magnitude_r; rw [if_pos c_1])) (gEq.rf _) dX6_magnitude_10
  · refine x_iload_n C dX6_magnitude_4 0 rfl ?_
    refine x_ineg C dX6_magnitude_5 ?_
    refine x_goto (tgt := 10) C dX6_magnitude_6 (by decide) ?_
    exact x_iret C hr hlocks rfl () (Eq.symm (by unfold f_X6_magnitude_r; rw [if_neg c_1])) (gEq.rf _) dX6_magnitude_10
set_option maxHeartbeats 4000000 in
set_option maxRecDepth 100000 in
theorem c_X5_isErrorCode (l : Launch) (E : gE) (v : Int32)  : CtI l E yX5_isErrorCode prog_1_method_35_code 1 (some .boolean) 1 22 0 0 [.int v] [] (fun r (_ : Unit) => r = (if (-9) ≤ v ∧ v ≤ (-2) then 1 else 0)) (fun _ => []) := by
  refine CtI.start (by decide) (Nat.le_of_ble_eq_true rfl) ?_
  intro p_ e_ s_ m_ below_ meth_ c_ A_ C hr hlocks hnm
  refine Wd.cast (lv1 := [(0, .int v)]) rfl rfl rfl ?_
  refine x_iload_n C dX5_isErrorCode_0 0 rfl ?_
  refine x_bipush (v := (-9)) C dX5_isErrorCode_1 (by decide) ?_
  refine x_bipush (v := (-2)) C dX5_isErrorCode_3 (by decide) ?_
  refine x_callSI (wc := []) (wr := []) (As := [.int v, .int (-9), .int (-2)]) (rest := []) C (c_X5_isWithin l E v (-9) (-2) ) (gWS C kw_ml_X5_86 kw_st_X5_isWithin kw_ini_X5 kw_code_X5_isWithin ga_X5_isWithin ⟨Nat.le_of_ble_eq_true rfl, Nat.le_of_ble_eq_true rfl⟩) [] [] [] rfl rfl rfl rfl (by decide) (fun _ => []) rfl (fun _ => rfl) rfl (Nat.le_of_ble_eq_true rfl) ⟨Nat.le_of_ble_eq_true rfl, Nat.le_of_ble_eq_true rfl⟩ rfl dX5_isErrorCode_5 (fun r_1 _ e_2 => ?_)
  subst e_2
  exact x_iret C hr hlocks (by split <;> rfl) () rfl (gEq.rf _) dX5_isErrorCode_8
set_option maxHeartbeats 4000000 in
set_option maxRecDepth 100000 in
theorem c_X6_isError (l : Launch) (E : gE) (v : Int32)  : CtI l E yX6_isError prog_8_method_7_code 1 (some .boolean) 1 22 0 0 [.int v] [] (fun r (_ : Unit) => r = (if (-9) ≤ v ∧ v ≤ (-2) then 1 else 0)) (fun _ => []) := by
  refine CtI.start (by decide) (Nat.le_of_ble_eq_true rfl) ?_
  intro p_ e_ s_ m_ below_ meth_ c_ A_ C hr hlocks hnm
  refine Wd.cast (lv1 := [(0, .int v)]) rfl rfl rfl ?_
  refine x_iload_n C dX6_isError_0 0 rfl ?_
  refine x_bipush (v := (-9)) C dX6_isError_1 (by decide) ?_
  refine x_bipush (v := (-2)) C dX6_isError_3 (by decide) ?_
  refine x_callSI (wc := []) (wr := []) (As := [.int v, .int (-9), .int (-2)]) (rest := []) C (c_X6_in l E v (-9) (-2) ) (gWS C kw_ml_X6_35 kw_st_X6_in kw_ini_X6 kw_code_X6_in ga_X6_in ⟨Nat.le_of_ble_eq_true rfl, Nat.le_of_ble_eq_true rfl⟩) [] [] [] rfl rfl rfl rfl (by decide) (fun _ => []) rfl (fun _ => rfl) rfl (Nat.le_of_ble_eq_true rfl) ⟨Nat.le_of_ble_eq_true rfl, Nat.le_of_ble_eq_true rfl⟩ rfl dX6_isError_5 (fun r_1 _ e_2 => ?_)
  subst e_2
  exact x_iret C hr hlocks (by split <;> rfl) () rfl (gEq.rf _) dX6_isError_8
set_option maxHeartbeats 4000000 in
set_option maxRecDepth 100000 in
theorem c_X5_mixed (l : Launch) (E : gE) (z : Int64) (v : Int32)  : CtL l E yX5_mixed prog_1_method_40_code 3 (some .long) 0 0 0 0 [.long z, .int v] [] (fun r (_ : Unit) => r = 31 * z + v.toInt64) (fun _ => []) := by
  refine CtL.start (by decide) (Nat.le_of_ble_eq_true rfl) ?_
  intro p_ e_ s_ m_ below_ meth_ c_ A_ C hr hlocks hnm
  refine Wd.cast (lv1 := [(0, .long z), (2, .int v)]) rfl rfl rfl ?_
  refine x_ldc2 (v := 31) C kw_con_X5_201 dX5_mixed_0 ?_
  refine x_lload_n C dX5_mixed_3 0 rfl ?_
  refine x_lmul C dX5_mixed_4 ?_
  refine x_iload_n C dX5_mixed_5 1 rfl ?_
  refine x_i2l C dX5_mixed_6 ?_
  refine x_ladd C dX5_mixed_7 ?_
  exact x_lret C hr hlocks () rfl (gEq.rf _) dX5_mixed_8
