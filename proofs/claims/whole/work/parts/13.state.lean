theorem nI_m1 {n : Nat} (h : 0 < n) : nI n - 1 = nI (n - 1) := by
  obtain ⟨m, rfl⟩ : ∃ m, n = m + 1 := ⟨n - 1, by omega⟩
  rw [nI_pred]; rfl
def mixH (h : Nat → Nat → Int32) (z : Int64) : Nat → Int64
  | 0 => 31 * z + (h 1 0).toInt64
  | k + 1 => 31 * mixH h z k + (h 0 k).toInt64
theorem nar01 {x : Int32} (h : x = 0 ∨ x = 1) : narrow .boolean (.int x) = .int x := by rcases h with rfl | rfl <;> rfl
theorem fit01 {x : Int32} (h : x = 0 ∨ x = 1) : fits .boolean (.int x) = true := by rcases h with rfl | rfl <;> rfl
/-- the search reset -/
def resetB (b : Nat → Nat → Int32) : Nat → Nat → Int32 := rs (rs (rs (rs b 0 0 0) 0 1 (-1)) 0 2 (-1)) 0 3 0
set_option maxHeartbeats 4000000 in
set_option maxRecDepth 100000 in
theorem c_X3_has (l : Launch) (E : gE) (a : Nat → Nat) (h : Nat → Nat → Int32) (i : Int32)  : CtI l E yX3_has prog_5_method_3_code 2 (some .boolean) 0 0 0 0 [.ref (a 6), .int i] [((a 6), .inr (3, [.ref (a 7), .int (h 1 0)]))] (fun r (_ : Unit) => r = (if 0 ≤ i ∧ i < h 1 0 then 1 else 0)) (fun _ => [((a 6), .inr (3, [.ref (a 7), .int (h 1 0)]))]) := by
  refine CtI.start (by decide) (Nat.le_of_ble_eq_true rfl) ?_
  intro p_ e_ s_ m_ below_ meth_ c_ A_ C hr hlocks hnm
  refine Wd.cast (lv1 := [(0, .ref (a 6)), (1, .int i)]) rfl rfl rfl ?_
  refine x_iload_n C dX3_has_0 1 rfl ?_
  refine x_if_lt (tgt := 16) C dX3_has_1 (by decide) (fun c_1 => ?_) (fun c_1 => ?_)
  · refine x_iconst (v := 0) C dX3_has_16 (by decide) ?_
    exact x_iret C hr hlocks rfl () (by first | exact (if_pos (by (try simp only [Int32.lt_iff_toInt_lt, Int32.le_iff_toInt_le, ← Int32.toInt_inj] at *); omega)).symm | exact (if_neg (by (try simp only [Int32.lt_iff_toInt_lt, Int32.le_iff_toInt_le, ← Int32.toInt_inj] at *); omega)).symm) (gEq.rf _) dX3_has_17
  · refine x_iload_n C dX3_has_4 1 rfl ?_
    refine x_aload_n C dX3_has_5 0 rfl ?_
    refine x_get (ref := "RomSearchBus$History") (v := .int (h 1 0)) C inX3 0 1 rfl rfl (by decide) kw_fl_X3_13 rfl rfl dX3_has_6 ?_
    refine x_icmp_ge (tgt := 16) C dX3_has_9 (by decide) (fun c_9 => ?_) (fun c_9 => ?_)
    · refine x_iconst (v := 0) C dX3_has_16 (by decide) ?_
      exact x_iret C hr hlocks rfl () (by first | exact (if_pos (by (try simp only [Int32.lt_iff_toInt_lt, Int32.le_iff_toInt_le, ← Int32.toInt_inj] at *); omega)).symm | exact (if_neg (by (try simp only [Int32.lt_iff_toInt_lt, Int32.le_iff_toInt_le, ← Int32.toInt_inj] at *); omega)).symm) (gEq.rf _) dX3_has_17
    · refine x_iconst (v := 1) C dX3_has_12 (by decide) ?_
      refine x_goto (tgt := 17) C dX3_has_13 (by decide) ?_
      exact x_iret C hr hlocks rfl () (by first | exact (if_pos (by (try simp only [Int32.lt_iff_toInt_lt, Int32.le_iff_toInt_le, ← Int32.toInt_inj] at *); omega)).symm | exact (if_neg (by (try simp only [Int32.lt_iff_toInt_lt, Int32.le_iff_toInt_le, ← Int32.toInt_inj] at *); omega)).symm) (gEq.rf _) dX3_has_17
set_option maxHeartbeats 4000000 in
set_option maxRecDepth 100000 in
theorem c_X3_holds (l : Launch) (E : gE) (a : Nat → Nat) (h : Nat → Nat → Int32) (q : Int32) (n : Nat) (hn : h 1 0 = nI n) (h6 : n ≤ 6) : CtI l E yX3_holds prog_5_method_6_code 3 (some .boolean) 0 0 0 0 [.ref (a 6), .int q] [((a 6), .inr (3, [.ref (a 7), .int (h 1 0)])), ((a 7), .inl (E.2.1, 6, .inl (h 0)))] (fun r (_ : Unit) => r = (if hasS (h 0) q n = true then 1 else 0)) (fun _ => [((a 6), .inr (3, [.ref (a 7), .int (h 1 0)])), ((a 7), .inl (E.2.1, 6, .inl (h 0)))]) := by
  refine CtI.start (by decide) (Nat.le_of_ble_eq_true rfl) ?_
  intro p_ e_ s_ m_ below_ meth_ c_ A_ C hr hlocks hnm
  refine Wd.cast (lv1 := [(0, .ref (a 6)), (1, .int q)]) rfl rfl rfl ?_
  refine x_iconst (v := 0) C dX3_holds_0 (by decide) ?_
  refine x_istore_n (lv1 := [(2, .int 0), (0, .ref (a 6)), (1, .int q)]) C dX3_holds_1 (by decide) rfl ?_
  refine Wd.locs (lv1 := [(0, .ref (a 6)), (1, .int q), (2, .int 0)]) [1, 2, 0] rfl ?_
  refine Wd.cast (w1 := [((a 6), .inr (3, [.ref (a 7), .int (h 1 0)])), ((a 7), .inl (E.2.1, 6, .inl (h 0)))]) (lv1 := [(0, .ref (a 6)), (1, .int q), (2, .int (nI 0))]) rfl rfl rfl ?_
  refine Wd.up (W1 := fun k => [((a 6), .inr (3, [.ref (a 7), .int (h 1 0)])), ((a 7), .inl (E.2.1, 6, .inl (h 0)))]) (LV := fun k => [(0, .ref (a 6)), (1, .int q), (2, .int (nI k))]) (fun k => hasS (h 0) q k = false) 0 n (by omega) (rfl) (fun hI => ?_) (fun k hk0 hk hI ih => ?_)
  · refine Wd.cast (w1 := [((a 6), .inr (3, [.ref (a 7), .int (h 1 0)])), ((a 7), .inl (E.2.1, 6, .inl (h 0)))]) (lv1 := [(0, .ref (a 6)), (1, .int q), (2, .int (nI n))]) rfl rfl rfl ?_
    refine x_iload_n C dX3_holds_2 2 rfl ?_
    refine x_aload_n C dX3_holds_3 0 rfl ?_
    refine x_get (ref := "RomSearchBus$History") (v := .int (h 1 0)) C inX3 0 1 rfl rfl (by decide) kw_fl_X3_13 rfl rfl dX3_holds_4 ?_
    refine x_icmp_ge (tgt := 28) C dX3_holds_7 (by decide) (fun c_7 => ?_) (fun c_7 => absurd (by rw [hn]; exact Int32.le_refl _) c_7)
    refine x_iconst (v := 0) C dX3_holds_28 (by decide) ?_
    exact x_iret C hr hlocks rfl () (if_neg (by rw [hI]; decide)).symm (gEq.rf _) dX3_holds_29
  · refine Wd.cast (w1 := [((a 6), .inr (3, [.ref (a 7), .int (h 1 0)])), ((a 7), .inl (E.2.1, 6, .inl (h 0)))]) (lv1 := [(0, .ref (a 6)), (1, .int q), (2, .int (nI k))]) rfl rfl rfl ?_
    refine x_iload_n C dX3_holds_2 2 rfl ?_
    refine x_aload_n C dX3_holds_3 0 rfl ?_
    refine x_get (ref := "RomSearchBus$History") (v := .int (h 1 0)) C inX3 0 1 rfl rfl (by decide) kw_fl_X3_13 rfl rfl dX3_holds_4 ?_
    refine x_icmp_ge (tgt := 28) C dX3_holds_7 (by decide) (fun c_7 => absurd c_7 (by rw [hn]; exact nI_ge hk (by omega))) (fun c_7 => ?_)
    refine x_aload_n C dX3_holds_10 0 rfl ?_
    refine x_get (ref := "RomSearchBus$History") (v := .ref (a 7)) C inX3 0 0 rfl rfl (by decide) kw_fl_X3_9 rfl rfl dX3_holds_11 ?_
    refine x_iload_n C dX3_holds_14 2 rfl ?_
    refine x_ialdN (x := (h 0 k)) C 1 rfl rfl (by omega) (by decide) rfl dX3_holds_15 ?_
    refine x_iload_n C dX3_holds_16 1 rfl ?_
    refine x_icmp_ne (tgt := 22) C dX3_holds_17 (by decide) (fun c_17 => ?_) (fun c_17 => ?_)
    · refine x_iinc (j := 2) (v := (nI (k + 1))) (lv1 := [(2, .int (nI (k + 1))), (0, .ref (a 6)), (1, .int q)]) C dX3_holds_22 rfl (nI_1 _) (by decide) rfl ?_
      refine x_goto (tgt := 2) C dX3_holds_25 (by decide) ?_
      refine Wd.locs (lv1 := [(0, .ref (a 6)), (1, .int q), (2, .int (nI (k + 1)))]) [1, 2, 0] rfl ?_
      exact Wd.cast (w1 := [((a 6), .inr (3, [.ref (a 7), .int (h 1 0)])), ((a 7), .inl (E.2.1, 6, .inl (h 0)))]) (lv1 := [(0, .ref (a 6)), (1, .int q), (2, .int (nI (k + 1)))]) rfl rfl rfl (ih (by rw [hasS_s, if_neg (by simpa using c_17)]; exact hI))
    · refine x_iconst (v := 1) C dX3_holds_20 (by decide) ?_
      exact x_iret C hr hlocks rfl () (if_pos (hasS_t (by simpa using c_17) hk)).symm (gEq.rf _) dX3_holds_21
set_option maxHeartbeats 4000000 in
set_option maxRecDepth 100000 in
theorem c_X3_forgetOldest (l : Launch) (E : gE) (a : Nat → Nat) (h : Nat → Nat → Int32) (n : Nat) (hn : h 1 0 = nI n) (h6 : n ≤ 6) (h1 : 0 < n) : CtV l E yX3_forgetOldest prog_5_method_7_code 2 none 0 0 0 0 [.ref (a 6)] [((a 6), .inr (3, [.ref (a 7), .int (h 1 0)])), ((a 7), .inl (E.2.1, 6, .inl (h 0)))] (fun _ : Unit => True) (fun _ => [((a 6), .inr (3, [.ref (a 7), .int ((h 1 0) - 1)])), ((a 7), .inl (E.2.1, 6, .inl (gap (h 0) 0 (n - 1))))]) := by
  refine CtV.start (by decide) (Nat.le_of_ble_eq_true rfl) ?_
  intro p_ e_ s_ m_ below_ meth_ c_ A_ C hr hlocks hnm
  refine Wd.cast (lv1 := [(0, .ref (a 6))]) rfl rfl rfl ?_
  refine x_iconst (v := 0) C dX3_forgetOldest_0 (by decide) ?_
  refine x_istore_n (lv1 := [(1, .int 0), (0, .ref (a 6))]) C dX3_forgetOldest_1 (by decide) rfl ?_
  refine Wd.locs (lv1 := [(0, .ref (a 6)), (1, .int 0)]) [1, 0] rfl ?_
  have w_1 : (h 0) = (gap (h 0) 0 0) := (gap_0 _ _).symm
  refine Wd.cast (w1 := [((a 6), .inr (3, [.ref (a 7), .int (h 1 0)])), ((a 7), .inl (E.2.1, 6, .inl (gap (h 0) 0 0)))]) (lv1 := [(0, .ref (a 6)), (1, .int (nI 0))]) (by first | (rw [w_1]; done) | (rw [← w_1]; done) | simp only [w_1]) rfl rfl ?_
  refine Wd.up (W1 := fun k => [((a 6), .inr (3, [.ref (a 7), .int (h 1 0)])), ((a 7), .inl (E.2.1, 6, .inl (gap (h 0) 0 k)))]) (LV := fun k => [(0, .ref (a 6)), (1, .int (nI k))]) (fun k => True) 0 (n - 1) (by omega) (trivial) (fun hI => ?_) (fun k hk0 hk hI ih => ?_)
  · refine Wd.cast (w1 := [((a 6), .inr (3, [.ref (a 7), .int (h 1 0)])), ((a 7), .inl (E.2.1, 6, .inl (gap (h 0) 0 (n - 1))))]) (lv1 := [(0, .ref (a 6)), (1, .int (nI (n - 1)))]) rfl rfl rfl ?_
    refine x_iload_n C dX3_forgetOldest_2 1 rfl ?_
    refine x_iconst (v := 1) C dX3_forgetOldest_3 (by decide) ?_
    refine x_iadd C dX3_forgetOldest_4 ?_
    refine x_aload_n C dX3_forgetOldest_5 0 rfl ?_
    refine x_get (ref := "RomSearchBus$History") (v := .int (h 1 0)) C inX3 0 1 rfl rfl (by decide) kw_fl_X3_13 rfl rfl dX3_forgetOldest_6 ?_
    refine x_icmp_ge (tgt := 32) C dX3_forgetOldest_9 (by decide) (fun c_9 => ?_) (fun c_9 => absurd (by rw [hn, nI_1, show n - 1 + 1 = n by omega]; exact Int32.le_refl _) c_9)
    refine x_aload_n C dX3_forgetOldest_32 0 rfl ?_
    refine x_dup C dX3_forgetOldest_33 rfl ?_
    refine x_get (ref := "RomSearchBus$History") (v := .int (h 1 0)) C inX3 0 1 rfl rfl (by decide) kw_fl_X3_13 rfl rfl dX3_forgetOldest_34 ?_
    refine x_iconst (v := 1) C dX3_forgetOldest_37 (by decide) ?_
    refine x_isub C dX3_forgetOldest_38 ?_
    refine x_put (ref := "RomSearchBus$History") C inX3 tyX3 tyX3_ok nmX3 0 1 rfl rfl (by decide) kw_fl_X3_13 rfl rfl rfl rfl (Nat.le_of_ble_eq_true rfl) [((a 6), .inr (3, [.ref (a 7), .int ((h 1 0) - 1)])), ((a 7), .inl (E.2.1, 6, .inl (gap (h 0) 0 (n - 1))))] rfl dX3_forgetOldest_39 ?_
    exact x_vret C hr hlocks () trivial (gEq.rf _) dX3_forgetOldest_42
  · refine Wd.cast (w1 := [((a 6), .inr (3, [.ref (a 7), .int (h 1 0)])), ((a 7), .inl (E.2.1, 6, .inl (gap (h 0) 0 k)))]) (lv1 := [(0, .ref (a 6)), (1, .int (nI k))]) rfl rfl rfl ?_
    refine x_iload_n C dX3_forgetOldest_2 1 rfl ?_
    refine x_iconst (v := 1) C dX3_forgetOldest_3 (by decide) ?_
    refine x_iadd C dX3_forgetOldest_4 ?_
    refine x_aload_n C dX3_forgetOldest_5 0 rfl ?_
    refine x_get (ref := "RomSearchBus$History") (v := .int (h 1 0)) C inX3 0 1 rfl rfl (by decide) kw_fl_X3_13 rfl rfl dX3_forgetOldest_6 ?_
    refine x_icmp_ge (tgt := 32) C dX3_forgetOldest_9 (by decide) (fun c_9 => absurd c_9 (by rw [hn, nI_1]; exact nI_ge (by omega) (by omega))) (fun c_9 => ?_)
    refine x_aload_n C dX3_forgetOldest_12 0 rfl ?_
    refine x_get (ref := "RomSearchBus$History") (v := .ref (a 7)) C inX3 0 0 rfl rfl (by decide) kw_fl_X3_9 rfl rfl dX3_forgetOldest_13 ?_
    refine x_iload_n C dX3_forgetOldest_16 1 rfl ?_
    refine x_aload_n C dX3_forgetOldest_17 0 rfl ?_
    refine x_get (ref := "RomSearchBus$History") (v := .ref (a 7)) C inX3 0 0 rfl rfl (by decide) kw_fl_X3_9 rfl rfl dX3_forgetOldest_18 ?_
    refine x_iload_n C dX3_forgetOldest_21 1 rfl ?_
    refine x_iconst (v := 1) C dX3_forgetOldest_22 (by decide) ?_
    refine x_iadd C dX3_forgetOldest_23 ?_
    refine x_ialdN (x := ((gap (h 0) 0 k) (k + 1))) C 1 rfl (nI_1 k) (by omega) (by decide) rfl dX3_forgetOldest_24 ?_
    refine x_iastN C 1 rfl rfl (by omega) (by decide) [((a 6), .inr (3, [.ref (a 7), .int (h 1 0)])), ((a 7), .inl (E.2.1, 6, .inl (upd (gap (h 0) 0 k) k ((gap (h 0) 0 k) (k + 1)))))] rfl dX3_forgetOldest_25 ?_
    refine x_iinc (j := 1) (v := (nI (k + 1))) (lv1 := [(1, .int (nI (k + 1))), (0, .ref (a 6))]) C dX3_forgetOldest_26 rfl (nI_1 _) (by decide) rfl ?_
    refine x_goto (tgt := 2) C dX3_forgetOldest_29 (by decide) ?_
    refine Wd.locs (lv1 := [(0, .ref (a 6)), (1, .int (nI (k + 1)))]) [1, 0] rfl ?_
    have w_2 : (upd (gap (h 0) 0 k) k ((gap (h 0) 0 k) (k + 1))) = (gap (h 0) 0 (k + 1)) := (gap_s _ hk0)
    exact Wd.cast (w1 := [((a 6), .inr (3, [.ref (a 7), .int (h 1 0)])), ((a 7), .inl (E.2.1, 6, .inl (gap (h 0) 0 (k + 1))))]) (lv1 := [(0, .ref (a 6)), (1, .int (nI (k + 1)))]) (by first | (rw [w_2]; done) | (rw [← w_2]; done) | simp only [w_2]) rfl rfl (ih trivial)
def f_X3_remember_h (h : Nat → Nat → Int32) (q : Int32) (n : Nat) : Nat → Nat → Int32 := if hasS (h 0) q n = true then h else (if (h 1 0) < 6 then (rs (rs h 0 n q) 1 0 ((h 1 0) + 1)) else (rs (rs (va_up h 0 (gap (h 0) 0 (n - 1))) 0 (n - 1) q) 1 0 (((h 1 0) - 1) + 1)))
set_option maxHeartbeats 4000000 in
set_option maxRecDepth 100000 in
theorem c_X3_remember (l : Launch) (E : gE) (a : Nat → Nat) (h : Nat → Nat → Int32) (q : Int32) (n : Nat) (hn : h 1 0 = nI n) (h6 : n ≤ 6) : CtV l E yX3_remember prog_5_method_4_code 2 none 1 22 0 0 [.ref (a 6), .int q] [((a 6), .inr (3, [.ref (a 7), .int (h 1 0)])), ((a 7), .inl (E.2.1, 6, .inl (h 0)))] (fun _ : Unit => True) (fun _ => [((a 6), .inr (3, [.ref (a 7), .int ((f_X3_remember_h h q n) 1 0)])), ((a 7), .inl (E.2.1, 6, .inl ((f_X3_remember_h h q n) 0)))]) := by
  refine CtV.start (by decide) (Nat.le_of_ble_eq_true rfl) ?_
  intro p_ e_ s_ m_ below_ meth_ c_ A_ C hr hlocks hnm
  refine Wd.cast (lv1 := [(0, .ref (a 6)), (1, .int q)]) rfl rfl rfl ?_
  refine x_aload_n C dX3_remember_0 0 rfl ?_
  refine x_iload_n C dX3_remember_1 1 rfl ?_
  refine x_callVI (wc := [((a 6), .inr (3, [.ref (a 7), .int (h 1 0)])), ((a 7), .inl (E.2.1, 6, .inl (h 0)))]) (wr := []) (As := [.int q]) (rest := []) (ci := 3) (q0 := 0) C (c_X3_holds l E a h q n hn h6) (gWV C kw_ml_X3_23 kw_im_X3_holds kw_sel_X3_holds kw_ini_X3 kw_code_X3_holds ga_X3_holds ⟨Nat.le_of_ble_eq_true rfl, Nat.le_of_ble_eq_true rfl⟩) rfl rfl [0, 1] [] [0, 1] rfl rfl rfl rfl (by decide) (fun _ => [((a 6), .inr (3, [.ref (a 7), .int (h 1 0)])), ((a 7), .inl (E.2.1, 6, .inl (h 0)))]) rfl (fun _ => rfl) rfl (Nat.le_of_ble_eq_true rfl) ⟨Nat.le_of_ble_eq_true rfl, Nat.le_of_ble_eq_true rfl⟩ rfl dX3_remember_2 (fun r_1 _ e_2 => ?_)
  subst e_2
  refine x_ifB_eq (tgt := 9) C dX3_remember_5 (by decide) (fun c_5 => ?_) (fun c_5 => ?_)
  · refine x_aload_n C dX3_remember_9 0 rfl ?_
    refine x_get (ref := "RomSearchBus$History") (v := .int (h 1 0)) C inX3 0 1 rfl rfl (by decide) kw_fl_X3_13 rfl rfl dX3_remember_10 ?_
    refine x_bipush (v := 6) C dX3_remember_13 (by decide) ?_
    refine x_icmp_lt (tgt := 22) C dX3_remember_15 (by decide) (fun c_15 => ?_) (fun c_15 => ?_)
    · refine x_aload_n C dX3_remember_22 0 rfl ?_
      refine x_get (ref := "RomSearchBus$History") (v := .ref (a 7)) C inX3 0 0 rfl rfl (by decide) kw_fl_X3_9 rfl rfl dX3_remember_23 ?_
      refine x_aload_n C dX3_remember_26 0 rfl ?_
      refine x_get (ref := "RomSearchBus$History") (v := .int (h 1 0)) C inX3 0 1 rfl rfl (by decide) kw_fl_X3_13 rfl rfl dX3_remember_27 ?_
      refine x_iload_n C dX3_remember_30 1 rfl ?_
      refine x_iastN C 1 rfl hn (nI_lt8 (m := 6) hn h6 (by decide) (Int32.not_le.mpr c_15)) (by decide) [((a 6), .inr (3, [.ref (a 7), .int (h 1 0)])), ((a 7), .inl (E.2.1, 6, .inl (upd (h 0) n q)))] rfl dX3_remember_31 ?_
      refine x_aload_n C dX3_remember_32 0 rfl ?_
      refine x_dup C dX3_remember_33 rfl ?_
      refine x_get (ref := "RomSearchBus$History") (v := .int (h 1 0)) C inX3 0 1 rfl rfl (by decide) kw_fl_X3_13 rfl rfl dX3_remember_34 ?_
      refine x_iconst (v := 1) C dX3_remember_37 (by decide) ?_
      refine x_iadd C dX3_remember_38 ?_
      refine x_put (ref := "RomSearchBus$History") C inX3 tyX3 tyX3_ok nmX3 0 1 rfl rfl (by decide) kw_fl_X3_13 rfl rfl rfl rfl (Nat.le_of_ble_eq_true rfl) [((a 6), .inr (3, [.ref (a 7), .int ((h 1 0) + 1)])), ((a 7), .inl (E.2.1, 6, .inl (upd (h 0) n q)))] rfl dX3_remember_39 ?_
      have q_3 : f_X3_remember_h h q n = (rs (rs h 0 n q) 1 0 ((h 1 0) + 1)) := (by unfold f_X3_remember_h; rw [if_neg c_5, if_pos c_15])
      exact x_vret C hr hlocks () trivial (by rw [q_3]; exact gEq.rf _) dX3_remember_42
    · have six : n = 6 := by
        rw [hn] at c_15
        rcases Nat.lt_or_ge n 6 with z | z
        · exact absurd (show nI n < nI 6 from nI_lt z (by decide)) c_15
        · omega
      refine x_aload_n C dX3_remember_18 0 rfl ?_
      refine x_callVV (wc := [((a 6), .inr (3, [.ref (a 7), .int (h 1 0)])), ((a 7), .inl (E.2.1, 6, .inl (h 0)))]) (wr := []) (As := []) (rest := []) (ci := 3) (q0 := 0) C (c_X3_forgetOldest l E a h n hn h6 (by have := six; omega)) (gWV C kw_ml_X3_27 kw_im_X3_forgetOldest kw_sel_X3_forgetOldest kw_ini_X3 kw_code_X3_forgetOldest ga_X3_forgetOldest ⟨Nat.le_of_ble_eq_true rfl, Nat.le_of_ble_eq_true rfl⟩) rfl rfl [0, 1] [] [0, 1] rfl rfl rfl rfl (by decide) (fun _ => [((a 6), .inr (3, [.ref (a 7), .int ((h 1 0) - 1)])), ((a 7), .inl (E.2.1, 6, .inl (gap (h 0) 0 (n - 1))))]) rfl (fun _ => rfl) rfl (Nat.le_of_ble_eq_true rfl) ⟨Nat.le_of_ble_eq_true rfl, Nat.le_of_ble_eq_true rfl⟩ rfl dX3_remember_19 (fun _ e_5 => ?_)
      refine x_aload_n C dX3_remember_22 0 rfl ?_
      refine x_get (ref := "RomSearchBus$History") (v := .ref (a 7)) C inX3 0 0 rfl rfl (by decide) kw_fl_X3_9 rfl rfl dX3_remember_23 ?_
      refine x_aload_n C dX3_remember_26 0 rfl ?_
      refine x_get (ref := "RomSearchBus$History") (v := .int ((h 1 0) - 1)) C inX3 0 1 rfl rfl (by decide) kw_fl_X3_13 rfl rfl dX3_remember_27 ?_
      refine x_iload_n C dX3_remember_30 1 rfl ?_
      refine x_iastN C 1 rfl (by rw [hn]; exact nI_m1 (by omega)) (by omega) (by decide) [((a 6), .inr (3, [.ref (a 7), .int ((h 1 0) - 1)])), ((a 7), .inl (E.2.1, 6, .inl (upd (gap (h 0) 0 (n - 1)) (n - 1) q)))] rfl dX3_remember_31 ?_
      refine x_aload_n C dX3_remember_32 0 rfl ?_
      refine x_dup C dX3_remember_33 rfl ?_
      refine x_get (ref := "RomSearchBus$History") (v := .int ((h 1 0) - 1)) C inX3 0 1 rfl rfl (by decide) kw_fl_X3_13 rfl rfl dX3_remember_34 ?_
      refine x_iconst (v := 1) C dX3_remember_37 (by decide) ?_
      refine x_iadd C dX3_remember_38 ?_
      refine x_put (ref := "RomSearchBus$History") C inX3 tyX3 tyX3_ok nmX3 0 1 rfl rfl (by decide) kw_fl_X3_13 rfl rfl rfl rfl (Nat.le_of_ble_eq_true rfl) [((a 6), .inr (3, [.ref (a 7), .int (((h 1 0) - 1) + 1)])), ((a 7), .inl (E.2.1, 6, .inl (upd (gap (h 0) 0 (n - 1)) (n - 1) q)))] rfl dX3_remember_39 ?_
      have q_6 : f_X3_remember_h h q n = (rs (rs (va_up h 0 (gap (h 0) 0 (n - 1))) 0 (n - 1) q) 1 0 (((h 1 0) - 1) + 1)) := (by unfold f_X3_remember_h; rw [if_neg c_5, if_neg c_15])
      exact x_vret C hr hlocks () trivial (by rw [q_6]; exact gEq.rf _) dX3_remember_42
  · have q_7 : f_X3_remember_h h q n = h := (by unfold f_X3_remember_h; rw [if_pos c_5])
    exact x_vret C hr hlocks () trivial (by rw [q_7]; exact gEq.rf _) dX3_remember_8
set_option maxHeartbeats 4000000 in
set_option maxRecDepth 100000 in
theorem c_X3_mixInto (l : Launch) (E : gE) (a : Nat → Nat) (h : Nat → Nat → Int32) (z : Int64) (n : Nat) (hn : h 1 0 = nI n) (h6 : n ≤ 6) : CtL l E yX3_mixInto prog_5_method_5_code 6 (some .long) 1 22 0 0 [.ref (a 6), .long z] [((a 6), .inr (3, [.ref (a 7), .int (h 1 0)])), ((a 7), .inl (E.2.1, 6, .inl (h 0)))] (fun r (_ : Unit) => r = mixH h z n) (fun _ => [((a 6), .inr (3, [.ref (a 7), .int (h 1 0)])), ((a 7), .inl (E.2.1, 6, .inl (h 0)))]) := by
  refine CtL.start (by decide) (Nat.le_of_ble_eq_true rfl) ?_
  intro p_ e_ s_ m_ below_ meth_ c_ A_ C hr hlocks hnm
  refine Wd.cast (lv1 := [(0, .ref (a 6)), (1, .long z)]) rfl rfl rfl ?_
  refine x_lload_n C dX3_mixInto_0 1 rfl ?_
  refine x_aload_n C dX3_mixInto_1 0 rfl ?_
  refine x_get (ref := "RomSearchBus$History") (v := .int (h 1 0)) C inX3 0 1 rfl rfl (by decide) kw_fl_X3_13 rfl rfl dX3_mixInto_2 ?_
  refine x_callNL (wc := []) (wr := [((a 6), .inr (3, [.ref (a 7), .int (h 1 0)])), ((a 7), .inl (E.2.1, 6, .inl (h 0)))]) (As := [.long z, .int (h 1 0)]) (rest := []) C (c_X5_mixed l E z (h 1 0) ) (gWN (host := RX5) C (by unfold gNest; exact List.mem_of_getElem? (i := 9) rfl) kw_st_X5_mixed kw_ini_X5 kw_code_X5_mixed ga_X5_mixed ⟨Nat.le_of_ble_eq_true rfl, Nat.le_of_ble_eq_true rfl⟩) [] [0, 1] [0, 1] rfl rfl rfl rfl (by decide) (fun _ => [((a 6), .inr (3, [.ref (a 7), .int (h 1 0)])), ((a 7), .inl (E.2.1, 6, .inl (h 0)))]) rfl (fun _ => rfl) rfl (Nat.le_of_ble_eq_true rfl) ⟨Nat.le_of_ble_eq_true rfl, Nat.le_of_ble_eq_true rfl⟩ rfl dX3_mixInto_5 (fun r_1 _ e_2 => ?_)
  subst e_2
  refine x_lstore_n (lv1 := [(3, .long (31 * z + (h 1 0).toInt64)), (0, .ref (a 6)), (1, .long z)]) C dX3_mixInto_8 (by decide) rfl ?_
  refine x_iconst (v := 0) C dX3_mixInto_9 (by decide) ?_
  refine x_istore (lv1 := [(5, .int 0), (3, .long (31 * z + (h 1 0).toInt64)), (0, .ref (a 6)), (1, .long z)]) C dX3_mixInto_10 (by decide) rfl ?_
  refine Wd.locs (lv1 := [(0, .ref (a 6)), (1, .long z), (3, .long (31 * z + (h 1 0).toInt64)), (5, .int 0)]) [2, 3, 1, 0] rfl ?_
  refine Wd.cast (w1 := [((a 6), .inr (3, [.ref (a 7), .int (h 1 0)])), ((a 7), .inl (E.2.1, 6, .inl (h 0)))]) (lv1 := [(0, .ref (a 6)), (1, .long z), (3, .long (mixH h z 0)), (5, .int (nI 0))]) rfl rfl rfl ?_
  refine Wd.up (W1 := fun k => [((a 6), .inr (3, [.ref (a 7), .int (h 1 0)])), ((a 7), .inl (E.2.1, 6, .inl (h 0)))]) (LV := fun k => [(0, .ref (a 6)), (1, .long z), (3, .long (mixH h z k)), (5, .int (nI k))]) (fun k => True) 0 n (by omega) (trivial) (fun hI => ?_) (fun k hk0 hk hI ih => ?_)
  · refine Wd.cast (w1 := [((a 6), .inr (3, [.ref (a 7), .int (h 1 0)])), ((a 7), .inl (E.2.1, 6, .inl (h 0)))]) (lv1 := [(0, .ref (a 6)), (1, .long z), (3, .long (mixH h z n)), (5, .int (nI n))]) rfl rfl rfl ?_
    refine x_iload C dX3_mixInto_12 3 rfl ?_
    refine x_aload_n C dX3_mixInto_14 0 rfl ?_
    refine x_get (ref := "RomSearchBus$History") (v := .int (h 1 0)) C inX3 0 1 rfl rfl (by decide) kw_fl_X3_13 rfl rfl dX3_mixInto_15 ?_
    refine x_icmp_ge (tgt := 39) C dX3_mixInto_18 (by decide) (fun c_18 => ?_) (fun c_18 => absurd (by rw [hn]; exact Int32.le_refl _) c_18)
    refine x_lload_n C dX3_mixInto_39 2 rfl ?_
    exact x_lret C hr hlocks () rfl (gEq.rf _) dX3_mixInto_40
  · refine Wd.cast (w1 := [((a 6), .inr (3, [.ref (a 7), .int (h 1 0)])), ((a 7), .inl (E.2.1, 6, .inl (h 0)))]) (lv1 := [(0, .ref (a 6)), (1, .long z), (3, .long (mixH h z k)), (5, .int (nI k))]) rfl rfl rfl ?_
    refine x_iload C dX3_mixInto_12 3 rfl ?_
    refine x_aload_n C dX3_mixInto_14 0 rfl ?_
    refine x_get (ref := "RomSearchBus$History") (v := .int (h 1 0)) C inX3 0 1 rfl rfl (by decide) kw_fl_X3_13 rfl rfl dX3_mixInto_15 ?_
    refine x_icmp_ge (tgt := 39) C dX3_mixInto_18 (by decide) (fun c_18 => absurd c_18 (by rw [hn]; exact nI_ge hk (by omega))) (fun c_18 => ?_)
    refine x_lload_n C dX3_mixInto_21 2 rfl ?_
    refine x_aload_n C dX3_mixInto_22 0 rfl ?_
    refine x_get (ref := "RomSearchBus$History") (v := .ref (a 7)) C inX3 0 0 rfl rfl (by decide) kw_fl_X3_9 rfl rfl dX3_mixInto_23 ?_
    refine x_iload C dX3_mixInto_26 3 rfl ?_
    refine x_ialdN (x := (h 0 k)) C 1 rfl rfl (by omega) (by decide) rfl dX3_mixInto_28 ?_
    refine x_callNL (wc := []) (wr := [((a 6), .inr (3, [.ref (a 7), .int (h 1 0)])), ((a 7), .inl (E.2.1, 6, .inl (h 0)))]) (As := [.long (mixH h z k), .int (h 0 k)]) (rest := []) C (c_X5_mixed l E (mixH h z k) (h 0 k) ) (gWN (host := RX5) C (by unfold gNest; exact List.mem_of_getElem? (i := 9) rfl) kw_st_X5_mixed kw_ini_X5 kw_code_X5_mixed ga_X5_mixed ⟨Nat.le_of_ble_eq_true rfl, Nat.le_of_ble_eq_true rfl⟩) [] [0, 1] [0, 1] rfl rfl rfl rfl (by decide) (fun _ => [((a 6), .inr (3, [.ref (a 7), .int (h 1 0)])), ((a 7), .inl (E.2.1, 6, .inl (h 0)))]) rfl (fun _ => rfl) rfl (Nat.le_of_ble_eq_true rfl) ⟨Nat.le_of_ble_eq_true rfl, Nat.le_of_ble_eq_true rfl⟩ rfl dX3_mixInto_29 (fun r_3 _ e_4 => ?_)
    subst e_4
    refine x_lstore_n (lv1 := [(3, .long (31 * (mixH h z k) + (h 0 k).toInt64)), (0, .ref (a 6)), (1, .long z), (5, .int (nI k))]) C dX3_mixInto_32 (by decide) rfl ?_
    refine x_iinc (j := 3) (v := (nI (k + 1))) (lv1 := [(5, .int (nI (k + 1))), (3, .long (31 * (mixH h z k) + (h 0 k).toInt64)), (0, .ref (a 6)), (1, .long z)]) C dX3_mixInto_33 rfl (nI_1 _) (by decide) rfl ?_
    refine x_goto (tgt := 12) C dX3_mixInto_36 (by decide) ?_
    refine Wd.locs (lv1 := [(0, .ref (a 6)), (1, .long z), (3, .long (31 * (mixH h z k) + (h 0 k).toInt64)), (5, .int (nI (k + 1)))]) [2, 3, 1, 0] rfl ?_
    exact Wd.cast (w1 := [((a 6), .inr (3, [.ref (a 7), .int (h 1 0)])), ((a 7), .inl (E.2.1, 6, .inl (h 0)))]) (lv1 := [(0, .ref (a 6)), (1, .long z), (3, .long (mixH h z (k + 1))), (5, .int (nI (k + 1)))]) rfl rfl rfl (ih trivial)
set_option maxHeartbeats 4000000 in
set_option maxRecDepth 100000 in
theorem c_X3_copyFrom (l : Launch) (E : gE) (a : Nat → Nat) (h : Nat → Nat → Int32) (o : Nat → Nat) (f : Nat → Nat → Int32)  : CtV l E yX3_copyFrom prog_5_method_2_code 2 none 1 30 0 0 [.ref (a 6), .ref (o 6)] [((a 6), .inr (3, [.ref (a 7), .int (h 1 0)])), ((a 7), .inl (E.2.1, 6, .inl (h 0))), ((o 6), .inr (3, [.ref (o 7), .int (f 1 0)])), ((o 7), .inl (E.2.1, 6, .inl (f 0)))] (fun _ : Unit => True) (fun _ => [((a 6), .inr (3, [.ref (a 7), .int (f 1 0)])), ((a 7), .inl (E.2.1, 6, .inl (f 0))), ((o 6), .inr (3, [.ref (o 7), .int (f 1 0)])), ((o 7), .inl (E.2.1, 6, .inl (f 0)))]) := by
  refine CtV.start (by decide) (Nat.le_of_ble_eq_true rfl) ?_
  intro p_ e_ s_ m_ below_ meth_ c_ A_ C hr hlocks hnm
  refine Wd.cast (lv1 := [(0, .ref (a 6)), (1, .ref (o 6))]) rfl rfl rfl ?_
  refine x_aload_n C dX3_copyFrom_0 1 rfl ?_
  refine x_get (ref := "RomSearchBus$History") (v := .ref (o 7)) C inX3 2 0 rfl rfl (by decide) kw_fl_X3_9 rfl rfl dX3_copyFrom_1 ?_
  refine x_iconst (v := 0) C dX3_copyFrom_4 (by decide) ?_
  refine x_aload_n C dX3_copyFrom_5 0 rfl ?_
  refine x_get (ref := "RomSearchBus$History") (v := .ref (a 7)) C inX3 0 0 rfl rfl (by decide) kw_fl_X3_9 rfl rfl dX3_copyFrom_6 ?_
  refine x_iconst (v := 0) C dX3_copyFrom_9 (by decide) ?_
  refine x_bipush (v := 6) C dX3_copyFrom_10 (by decide) ?_
  refine x_copy C kw_ml_X3_17 3 1 rfl rfl (by decide) (by decide) (by decide) (by decide) (by decide) (Nat.le_of_ble_eq_true rfl) (Nat.le_of_ble_eq_true rfl) [((a 6), .inr (3, [.ref (a 7), .int ((va_up h 0 (va_cpy (f 0) (h 0) 0 0 6)) 1 0)])), ((a 7), .inl (E.2.1, 6, .inl ((va_up h 0 (va_cpy (f 0) (h 0) 0 0 6)) 0))), ((o 6), .inr (3, [.ref (o 7), .int (f 1 0)])), ((o 7), .inl (E.2.1, 6, .inl (f 0)))] rfl dX3_copyFrom_12 ?_
  refine x_aload_n C dX3_copyFrom_15 0 rfl ?_
  refine x_aload_n C dX3_copyFrom_16 1 rfl ?_
  refine x_get (ref := "RomSearchBus$History") (v := .int (f 1 0)) C inX3 2 1 rfl rfl (by decide) kw_fl_X3_13 rfl rfl dX3_copyFrom_17 ?_
  refine x_put (ref := "RomSearchBus$History") C inX3 tyX3 tyX3_ok nmX3 0 1 rfl rfl (by decide) kw_fl_X3_13 rfl rfl rfl rfl (Nat.le_of_ble_eq_true rfl) [((a 6), .inr (3, [.ref (a 7), .int (f 1 0)])), ((a 7), .inl (E.2.1, 6, .inl ((va_up h 0 (va_cpy (f 0) (h 0) 0 0 6)) 0))), ((o 6), .inr (3, [.ref (o 7), .int (f 1 0)])), ((o 7), .inl (E.2.1, 6, .inl (f 0)))] rfl dX3_copyFrom_20 ?_
  exact x_vret C hr hlocks () trivial ⟨rfl, Or.inl rfl, ⟨rfl, Or.inr (Or.inl ⟨_, _, _, _, rfl, rfl, cpy_all⟩), ⟨rfl, Or.inl rfl, ⟨rfl, Or.inl rfl, trivial⟩⟩⟩⟩ dX3_copyFrom_23
set_option maxHeartbeats 4000000 in
set_option maxRecDepth 100000 in
theorem c_X0_restart (l : Launch) (E : gE) (a : Nat → Nat) (b : Nat → Nat → Int32)  : CtI l E yX0_restart prog_2_method_4_code 2 (some .int) 0 0 0 0 [.ref (a 0)] [((a 0), .inr (0, [.ref (a 1), .ref (a 6), .int (b 0 0), .int (b 0 1), .int (b 0 2), .int (b 0 3), .int (b 0 4), .int (b 0 5), .int (b 0 6)]))] (fun r (_ : Unit) => r = (b 0 0)) (fun _ => [((a 0), .inr (0, [.ref (a 1), .ref (a 6), .int ((resetB b) 0 0), .int ((resetB b) 0 1), .int ((resetB b) 0 2), .int ((resetB b) 0 3), .int ((resetB b) 0 4), .int ((resetB b) 0 5), .int ((resetB b) 0 6)]))]) := by
  refine CtI.start (by decide) (Nat.le_of_ble_eq_true rfl) ?_
  intro p_ e_ s_ m_ below_ meth_ c_ A_ C hr hlocks hnm
  refine Wd.cast (lv1 := [(0, .ref (a 0))]) rfl rfl rfl ?_
  refine x_aload_n C dX0_restart_0 0 rfl ?_
  refine x_get (ref := "RomSearchBus$BusState") (v := .int (b 0 0)) C inX0 0 2 rfl rfl (by decide) kw_fl_X0_25 rfl rfl dX0_restart_1 ?_
  refine x_istore_n (lv1 := [(1, .int (b 0 0)), (0, .ref (a 0))]) C dX0_restart_4 (by decide) rfl ?_
  refine x_aload_n C dX0_restart_5 1 rfl ?_
  refine x_iconst (v := 0) C dX0_restart_6 (by decide) ?_
  refine x_put (ref := "RomSearchBus$BusState") C inX0 tyX0 tyX0_ok nmX0 0 2 rfl rfl (by decide) kw_fl_X0_25 rfl rfl rfl rfl (Nat.le_of_ble_eq_true rfl) [((a 0), .inr (0, [.ref (a 1), .ref (a 6), .int 0, .int (b 0 1), .int (b 0 2), .int (b 0 3), .int (b 0 4), .int (b 0 5), .int (b 0 6)]))] rfl dX0_restart_7 ?_
  refine x_aload_n C dX0_restart_10 1 rfl ?_
  refine x_iconst (v := (-1)) C dX0_restart_11 (by decide) ?_
  refine x_put (ref := "RomSearchBus$BusState") C inX0 tyX0 tyX0_ok nmX0 0 3 rfl rfl (by decide) kw_fl_X0_29 rfl rfl rfl rfl (Nat.le_of_ble_eq_true rfl) [((a 0), .inr (0, [.ref (a 1), .ref (a 6), .int 0, .int (-1), .int (b 0 2), .int (b 0 3), .int (b 0 4), .int (b 0 5), .int (b 0 6)]))] rfl dX0_restart_12 ?_
  refine x_aload_n C dX0_restart_15 1 rfl ?_
  refine x_iconst (v := (-1)) C dX0_restart_16 (by decide) ?_
  refine x_put (ref := "RomSearchBus$BusState") C inX0 tyX0 tyX0_ok nmX0 0 4 rfl rfl (by decide) kw_fl_X0_32 rfl rfl rfl rfl (Nat.le_of_ble_eq_true rfl) [((a 0), .inr (0, [.ref (a 1), .ref (a 6), .int 0, .int (-1), .int (-1), .int (b 0 3), .int (b 0 4), .int (b 0 5), .int (b 0 6)]))] rfl dX0_restart_17 ?_
  refine x_aload_n C dX0_restart_20 1 rfl ?_
  refine x_iconst (v := 0) C dX0_restart_21 (by decide) ?_
  refine x_put (ref := "RomSearchBus$BusState") C inX0 tyX0 tyX0_ok nmX0 0 5 rfl rfl (by decide) kw_fl_X0_35 rfl rfl rfl rfl (Nat.le_of_ble_eq_true rfl) [((a 0), .inr (0, [.ref (a 1), .ref (a 6), .int 0, .int (-1), .int (-1), .int 0, .int (b 0 4), .int (b 0 5), .int (b 0 6)]))] rfl dX0_restart_22 ?_
  refine x_iload_n C dX0_restart_25 0 rfl ?_
  exact x_iret C hr hlocks rfl () rfl (gEq.rf _) dX0_restart_26
set_option maxHeartbeats 4000000 in
set_option maxRecDepth 100000 in
theorem c_X0_fail (l : Launch) (E : gE) (a : Nat → Nat) (b : Nat → Nat → Int32) (q : Int32)  : CtI l E yX0_fail prog_2_method_10_code 2 (some .int) 1 21 0 0 [.ref (a 0), .int q] [((a 0), .inr (0, [.ref (a 1), .ref (a 6), .int (b 0 0), .int (b 0 1), .int (b 0 2), .int (b 0 3), .int (b 0 4), .int (b 0 5), .int (b 0 6)]))] (fun r (_ : Unit) => r = q) (fun _ => [((a 0), .inr (0, [.ref (a 1), .ref (a 6), .int ((resetB b) 0 0), .int ((resetB b) 0 1), .int ((resetB b) 0 2), .int ((resetB b) 0 3), .int ((resetB b) 0 4), .int ((resetB b) 0 5), .int ((resetB b) 0 6)]))]) := by
  refine CtI.start (by decide) (Nat.le_of_ble_eq_true rfl) ?_
  intro p_ e_ s_ m_ below_ meth_ c_ A_ C hr hlocks hnm
  refine Wd.cast (lv1 := [(0, .ref (a 0)), (1, .int q)]) rfl rfl rfl ?_
  refine x_aload_n C dX0_fail_0 0 rfl ?_
  refine x_callVI (wc := [((a 0), .inr (0, [.ref (a 1), .ref (a 6), .int (b 0 0), .int (b 0 1), .int (b 0 2), .int (b 0 3), .int (b 0 4), .int (b 0 5), .int (b 0 6)]))]) (wr := []) (As := []) (rest := []) (ci := 0) (q0 := 0) C (c_X0_restart l E a b ) (gWV C kw_ml_X0_59 kw_im_X0_restart kw_sel_X0_restart kw_ini_X0 kw_code_X0_restart ga_X0_restart ⟨Nat.le_of_ble_eq_true rfl, Nat.le_of_ble_eq_true rfl⟩) rfl rfl [0] [] [0] rfl rfl rfl rfl (by decide) (fun _ => [((a 0), .inr (0, [.ref (a 1), .ref (a 6), .int ((resetB b) 0 0), .int ((resetB b) 0 1), .int ((resetB b) 0 2), .int ((resetB b) 0 3), .int ((resetB b) 0 4), .int ((resetB b) 0 5), .int ((resetB b) 0 6)]))]) rfl (fun _ => rfl) rfl (Nat.le_of_ble_eq_true rfl) ⟨Nat.le_of_ble_eq_true rfl, Nat.le_of_ble_eq_true rfl⟩ rfl dX0_fail_1 (fun r_1 _ e_2 => ?_)
  subst e_2
  refine x_pop C dX0_fail_4 rfl ?_
  refine x_iload_n C dX0_fail_5 1 rfl ?_
  exact x_iret C hr hlocks rfl () rfl (gEq.rf _) dX0_fail_6
def f_X0_switchMode_r (b : Nat → Nat → Int32) (q : Int32) : Int32 := if 0 ≤ q ∧ q ≤ 1 then (b 0 4) else (-2)
def f_X0_switchMode_b (b : Nat → Nat → Int32) (q : Int32) : Nat → Nat → Int32 := if 0 ≤ q ∧ q ≤ 1 then (rs (resetB b) 0 4 q) else b
set_option maxHeartbeats 4000000 in
set_option maxRecDepth 100000 in
theorem c_X0_switchMode (l : Launch) (E : gE) (a : Nat → Nat) (b : Nat → Nat → Int32) (q : Int32)  : CtI l E yX0_switchMode prog_2_method_3_code 3 (some .int) 1 22 0 0 [.ref (a 0), .int q] [((a 0), .inr (0, [.ref (a 1), .ref (a 6), .int (b 0 0), .int (b 0 1), .int (b 0 2), .int (b 0 3), .int (b 0 4), .int (b 0 5), .int (b 0 6)]))] (fun r (_ : Unit) => r = f_X0_switchMode_r b q) (fun _ => [((a 0), .inr (0, [.ref (a 1), .ref (a 6), .int ((f_X0_switchMode_b b q) 0 0), .int ((f_X0_switchMode_b b q) 0 1), .int ((f_X0_switchMode_b b q) 0 2), .int ((f_X0_switchMode_b b q) 0 3), .int ((f_X0_switchMode_b b q) 0 4), .int ((f_X0_switchMode_b b q) 0 5), .int ((f_X0_switchMode_b b q) 0 6)]))]) := by
  refine CtI.start (by decide) (Nat.le_of_ble_eq_true rfl) ?_
  intro p_ e_ s_ m_ below_ meth_ c_ A_ C hr hlocks hnm
  refine Wd.cast (lv1 := [(0, .ref (a 0)), (1, .int q)]) rfl rfl rfl ?_
  refine x_iload_n C dX0_switchMode_0 1 rfl ?_
  refine x_iconst (v := 0) C dX0_switchMode_1 (by decide) ?_
  refine x_iconst (v := 1) C dX0_switchMode_2 (by decide) ?_
  refine x_callNI (wc := []) (wr := [((a 0), .inr (0, [.ref (a 1), .ref (a 6), .int (b 0 0), .int (b 0 1), .int (b 0 2), .int (b 0 3), .int (b 0 4), .int (b 0 5), .int (b 0 6)]))]) (As := [.int q, .int 0, .int 1]) (rest := []) C (c_X5_isWithin l E q 0 1 ) (gWN (host := RX5) C (by unfold gNest; exact List.mem_of_getElem? (i := 2) rfl) kw_st_X5_isWithin kw_ini_X5 kw_code_X5_isWithin ga_X5_isWithin ⟨Nat.le_of_ble_eq_true rfl, Nat.le_of_ble_eq_true rfl⟩) [] [0] [0] rfl rfl rfl rfl (by decide) (fun _ => [((a 0), .inr (0, [.ref (a 1), .ref (a 6), .int (b 0 0), .int (b 0 1), .int (b 0 2), .int (b 0 3), .int (b 0 4), .int (b 0 5), .int (b 0 6)]))]) rfl (fun _ => rfl) rfl (Nat.le_of_ble_eq_true rfl) ⟨Nat.le_of_ble_eq_true rfl, Nat.le_of_ble_eq_true rfl⟩ rfl dX0_switchMode_3 (fun r_1 _ e_2 => ?_)
  subst e_2
  refine x_ifB_ne (tgt := 12) C dX0_switchMode_6 (by decide) (fun c_6 => ?_) (fun c_6 => ?_)
  · refine x_aload_n C dX0_switchMode_12 0 rfl ?_
    refine x_get (ref := "RomSearchBus$BusState") (v := .int (b 0 4)) C inX0 0 6 rfl rfl (by decide) kw_fl_X0_39 rfl rfl dX0_switchMode_13 ?_
    refine x_istore_n (lv1 := [(2, .int (b 0 4)), (0, .ref (a 0)), (1, .int q)]) C dX0_switchMode_16 (by decide) rfl ?_
    refine x_aload_n C dX0_switchMode_17 1 rfl ?_
    refine x_callVI (wc := [((a 0), .inr (0, [.ref (a 1), .ref (a 6), .int (b 0 0), .int (b 0 1), .int (b 0 2), .int (b 0 3), .int (b 0 4), .int (b 0 5), .int (b 0 6)]))]) (wr := []) (As := []) (rest := []) (ci := 0) (q0 := 0) C (c_X0_restart l E a b ) (gWV C kw_ml_X0_59 kw_im_X0_restart kw_sel_X0_restart kw_ini_X0 kw_code_X0_restart ga_X0_restart ⟨Nat.le_of_ble_eq_true rfl, Nat.le_of_ble_eq_true rfl⟩) rfl rfl [0] [] [0] rfl rfl rfl rfl (by decide) (fun _ => [((a 0), .inr (0, [.ref (a 1), .ref (a 6), .int ((resetB b) 0 0), .int ((resetB b) 0 1), .int ((resetB b) 0 2), .int ((resetB b) 0 3), .int ((resetB b) 0 4), .int ((resetB b) 0 5), .int ((resetB b) 0 6)]))]) rfl (fun _ => rfl) rfl (Nat.le_of_ble_eq_true rfl) ⟨Nat.le_of_ble_eq_true rfl, Nat.le_of_ble_eq_true rfl⟩ rfl dX0_switchMode_18 (fun r_3 _ e_4 => ?_)
    subst e_4
    refine x_pop C dX0_switchMode_21 rfl ?_
    refine x_aload_n C dX0_switchMode_22 1 rfl ?_
    refine x_iload_n C dX0_switchMode_23 2 rfl ?_
    refine x_put (ref := "RomSearchBus$BusState") C inX0 tyX0 tyX0_ok nmX0 0 6 rfl rfl (by decide) kw_fl_X0_39 rfl rfl rfl rfl (Nat.le_of_ble_eq_true rfl) [((a 0), .inr (0, [.ref (a 1), .ref (a 6), .int ((resetB b) 0 0), .int ((resetB b) 0 1), .int ((resetB b) 0 2), .int ((resetB b) 0 3), .int q, .int ((resetB b) 0 5), .int ((resetB b) 0 6)]))] rfl dX0_switchMode_24 ?_
    refine x_iload_n C dX0_switchMode_27 0 rfl ?_
    have q_5 : f_X0_switchMode_b b q = (rs (resetB b) 0 4 q) := (by unfold f_X0_switchMode_b; rw [if_pos c_6])
    exact x_iret C hr hlocks rfl () (Eq.symm (by unfold f_X0_switchMode_r; rw [if_pos c_6])) (by rw [q_5]; exact gEq.rf _) dX0_switchMode_28
  · refine x_bipush (v := (-2)) C dX0_switchMode_9 (by decide) ?_
    have q_6 : f_X0_switchMode_b b q = b := (by unfold f_X0_switchMode_b; rw [if_neg c_6])
    exact x_iret C hr hlocks rfl () (Eq.symm (by unfold f_X0_switchMode_r; rw [if_neg c_6])) (by rw [q_6]; exact gEq.rf _) dX0_switchMode_11
def f_X0_leaveFamily_r (b : Nat → Nat → Int32) : Int32 := if (b 0 2) = (-1) then (b 0 2) else (b 0 2)
def f_X0_leaveFamily_b (b : Nat → Nat → Int32) : Nat → Nat → Int32 := if (b 0 2) = (-1) then (rs (rs (rs b 0 1 (b 0 2)) 0 2 (-1)) 0 3 1) else (rs (rs b 0 1 (b 0 2)) 0 2 (-1))
set_option maxHeartbeats 4000000 in
set_option maxRecDepth 100000 in
theorem c_X0_leaveFamily (l : Launch) (E : gE) (a : Nat → Nat) (b : Nat → Nat → Int32)  : CtI l E yX0_leaveFamily prog_2_method_5_code 1 (some .int) 0 0 0 0 [.ref (a 0)] [((a 0), .inr (0, [.ref (a 1), .ref (a 6), .int (b 0 0), .int (b 0 1), .int (b 0 2), .int (b 0 3), .int (b 0 4), .int (b 0 5), .int (b 0 6)]))] (fun r (_ : Unit) => r = f_X0_leaveFamily_r b) (fun _ => [((a 0), .inr (0, [.ref (a 1), .ref (a 6), .int ((f_X0_leaveFamily_b b) 0 0), .int ((f_X0_leaveFamily_b b) 0 1), .int ((f_X0_leaveFamily_b b) 0 2), .int ((f_X0_leaveFamily_b b) 0 3), .int ((f_X0_leaveFamily_b b) 0 4), .int ((f_X0_leaveFamily_b b) 0 5), .int ((f_X0_leaveFamily_b b) 0 6)]))]) := by
  refine CtI.start (by decide) (Nat.le_of_ble_eq_true rfl) ?_
  intro p_ e_ s_ m_ below_ meth_ c_ A_ C hr hlocks hnm
  refine Wd.cast (lv1 := [(0, .ref (a 0))]) rfl rfl rfl ?_
  refine x_aload_n C dX0_leaveFamily_0 0 rfl ?_
  refine x_aload_n C dX0_leaveFamily_1 0 rfl ?_
  refine x_get (ref := "RomSearchBus$BusState") (v := .int (b 0 2)) C inX0 0 4 rfl rfl (by decide) kw_fl_X0_32 rfl rfl dX0_leaveFamily_2 ?_
  refine x_put (ref := "RomSearchBus$BusState") C inX0 tyX0 tyX0_ok nmX0 0 3 rfl rfl (by decide) kw_fl_X0_29 rfl rfl rfl rfl (Nat.le_of_ble_eq_true rfl) [((a 0), .inr (0, [.ref (a 1), .ref (a 6), .int (b 0 0), .int (b 0 2), .int (b 0 2), .int (b 0 3), .int (b 0 4), .int (b 0 5), .int (b 0 6)]))] rfl dX0_leaveFamily_5 ?_
  refine x_aload_n C dX0_leaveFamily_8 0 rfl ?_
  refine x_iconst (v := (-1)) C dX0_leaveFamily_9 (by decide) ?_
  refine x_put (ref := "RomSearchBus$BusState") C inX0 tyX0 tyX0_ok nmX0 0 4 rfl rfl (by decide) kw_fl_X0_32 rfl rfl rfl rfl (Nat.le_of_ble_eq_true rfl) [((a 0), .inr (0, [.ref (a 1), .ref (a 6), .int (b 0 0), .int (b 0 2), .int (-1), .int (b 0 3), .int (b 0 4), .int (b 0 5), .int (b 0 6)]))] rfl dX0_leaveFamily_10 ?_
  refine x_aload_n C dX0_leaveFamily_13 0 rfl ?_
  refine x_get (ref := "RomSearchBus$BusState") (v := .int (b 0 2)) C inX0 0 3 rfl rfl (by decide) kw_fl_X0_29 rfl rfl dX0_leaveFamily_14 ?_
  refine x_iconst (v := (-1)) C dX0_leaveFamily_17 (by decide) ?_
  refine x_icmp_ne (tgt := 26) C dX0_leaveFamily_18 (by decide) (fun c_18 => ?_) (fun c_18 => ?_)
  · refine x_aload_n C dX0_leaveFamily_26 0 rfl ?_
    refine x_get (ref := "RomSearchBus$BusState") (v := .int (b 0 2)) C inX0 0 3 rfl rfl (by decide) kw_fl_X0_29 rfl rfl dX0_leaveFamily_27 ?_
    have q_1 : f_X0_leaveFamily_b b = (rs (rs b 0 1 (b 0 2)) 0 2 (-1)) := (by unfold f_X0_leaveFamily_b; rw [if_neg c_18])
    exact x_iret C hr hlocks rfl () (Eq.symm (by unfold f_X0_leaveFamily_r; rw [if_neg c_18])) (by rw [q_1]; exact gEq.rf _) dX0_leaveFamily_30
  · refine x_aload_n C dX0_leaveFamily_21 0 rfl ?_
    refine x_iconst (v := 1) C dX0_leaveFamily_22 (by decide) ?_
    refine x_put (ref := "RomSearchBus$BusState") C inX0 tyX0 tyX0_ok nmX0 0 5 rfl rfl (by decide) kw_fl_X0_35 rfl rfl rfl rfl (Nat.le_of_ble_eq_true rfl) [((a 0), .inr (0, [.ref (a 1), .ref (a 6), .int (b 0 0), .int (b 0 2), .int (-1), .int 1, .int (b 0 4), .int (b 0 5), .int (b 0 6)]))] rfl dX0_leaveFamily_23 ?_
    refine x_aload_n C dX0_leaveFamily_26 0 rfl ?_
    refine x_get (ref := "RomSearchBus$BusState") (v := .int (b 0 2)) C inX0 0 3 rfl rfl (by decide) kw_fl_X0_29 rfl rfl dX0_leaveFamily_27 ?_
    have q_2 : f_X0_leaveFamily_b b = (rs (rs (rs b 0 1 (b 0 2)) 0 2 (-1)) 0 3 1) := (by unfold f_X0_leaveFamily_b; rw [if_pos c_18])
    exact x_iret C hr hlocks rfl () (Eq.symm (by unfold f_X0_leaveFamily_r; rw [if_pos c_18])) (by rw [q_2]; exact gEq.rf _) dX0_leaveFamily_30
def f_X0_aimAtFamily_r (b : Nat → Nat → Int32) (q : Int32) : Int32 := if 0 ≤ q ∧ q ≤ 15 then q else (-2)
def f_X0_aimAtFamily_b (b : Nat → Nat → Int32) (q : Int32) : Nat → Nat → Int32 := if 0 ≤ q ∧ q ≤ 15 then (rs (rs (resetB b) 0 0 q) 0 1 16) else b
set_option maxHeartbeats 4000000 in
set_option maxRecDepth 100000 in
theorem c_X0_aimAtFamily (l : Launch) (E : gE) (a : Nat → Nat) (b : Nat → Nat → Int32) (q : Int32)  : CtI l E yX0_aimAtFamily prog_2_method_6_code 2 (some .int) 1 22 0 0 [.ref (a 0), .int q] [((a 0), .inr (0, [.ref (a 1), .ref (a 6), .int (b 0 0), .int (b 0 1), .int (b 0 2), .int (b 0 3), .int (b 0 4), .int (b 0 5), .int (b 0 6)]))] (fun r (_ : Unit) => r = f_X0_aimAtFamily_r b q) (fun _ => [((a 0), .inr (0, [.ref (a 1), .ref (a 6), .int ((f_X0_aimAtFamily_b b q) 0 0), .int ((f_X0_aimAtFamily_b b q) 0 1), .int ((f_X0_aimAtFamily_b b q) 0 2), .int ((f_X0_aimAtFamily_b b q) 0 3), .int ((f_X0_aimAtFamily_b b q) 0 4), .int ((f_X0_aimAtFamily_b b q) 0 5), .int ((f_X0_aimAtFamily_b b q) 0 6)]))]) := by
  refine CtI.start (by decide) (Nat.le_of_ble_eq_true rfl) ?_
  intro p_ e_ s_ m_ below_ meth_ c_ A_ C hr hlocks hnm
  refine Wd.cast (lv1 := [(0, .ref (a 0)), (1, .int q)]) rfl rfl rfl ?_
  refine x_iload_n C dX0_aimAtFamily_0 1 rfl ?_
  refine x_iconst (v := 0) C dX0_aimAtFamily_1 (by decide) ?_
  refine x_bipush (v := 15) C dX0_aimAtFamily_2 (by decide) ?_
  refine x_callNI (wc := []) (wr := [((a 0), .inr (0, [.ref (a 1), .ref (a 6), .int (b 0 0), .int (b 0 1), .int (b 0 2), .int (b 0 3), .int (b 0 4), .int (b 0 5), .int (b 0 6)]))]) (As := [.int q, .int 0, .int 15]) (rest := []) C (c_X5_isWithin l E q 0 15 ) (gWN (host := RX5) C (by unfold gNest; exact List.mem_of_getElem? (i := 2) rfl) kw_st_X5_isWithin kw_ini_X5 kw_code_X5_isWithin ga_X5_isWithin ⟨Nat.le_of_ble_eq_true rfl, Nat.le_of_ble_eq_true rfl⟩) [] [0] [0] rfl rfl rfl rfl (by decide) (fun _ => [((a 0), .inr (0, [.ref (a 1), .ref (a 6), .int (b 0 0), .int (b 0 1), .int (b 0 2), .int (b 0 3), .int (b 0 4), .int (b 0 5), .int (b 0 6)]))]) rfl (fun _ => rfl) rfl (Nat.le_of_ble_eq_true rfl) ⟨Nat.le_of_ble_eq_true rfl, Nat.le_of_ble_eq_true rfl⟩ rfl dX0_aimAtFamily_4 (fun r_1 _ e_2 => ?_)
  subst e_2
  refine x_ifB_ne (tgt := 13) C dX0_aimAtFamily_7 (by decide) (fun c_7 => ?_) (fun c_7 => ?_)
  · refine x_aload_n C dX0_aimAtFamily_13 0 rfl ?_
    refine x_callVI (wc := [((a 0), .inr (0, [.ref (a 1), .ref (a 6), .int (b 0 0), .int (b 0 1), .int (b 0 2), .int (b 0 3), .int (b 0 4), .int (b 0 5), .int (b 0 6)]))]) (wr := []) (As := []) (rest := []) (ci := 0) (q0 := 0) C (c_X0_restart l E a b ) (gWV C kw_ml_X0_59 kw_im_X0_restart kw_sel_X0_restart kw_ini_X0 kw_code_X0_restart ga_X0_restart ⟨Nat.le_of_ble_eq_true rfl, Nat.le_of_ble_eq_true rfl⟩) rfl rfl [0] [] [0] rfl rfl rfl rfl (by decide) (fun _ => [((a 0), .inr (0, [.ref (a 1), .ref (a 6), .int ((resetB b) 0 0), .int ((resetB b) 0 1), .int ((resetB b) 0 2), .int ((resetB b) 0 3), .int ((resetB b) 0 4), .int ((resetB b) 0 5), .int ((resetB b) 0 6)]))]) rfl (fun _ => rfl) rfl (Nat.le_of_ble_eq_true rfl) ⟨Nat.le_of_ble_eq_true rfl, Nat.le_of_ble_eq_true rfl⟩ rfl dX0_aimAtFamily_14 (fun r_3 _ e_4 => ?_)
    subst e_4
    refine x_pop C dX0_aimAtFamily_17 rfl ?_
    refine x_aload_n C dX0_aimAtFamily_18 0 rfl ?_
    refine x_iload_n C dX0_aimAtFamily_19 1 rfl ?_
    refine x_put (ref := "RomSearchBus$BusState") C inX0 tyX0 tyX0_ok nmX0 0 2 rfl rfl (by decide) kw_fl_X0_25 rfl rfl rfl rfl (Nat.le_of_ble_eq_true rfl) [((a 0), .inr (0, [.ref (a 1), .ref (a 6), .int q, .int ((resetB b) 0 1), .int ((resetB b) 0 2), .int ((resetB b) 0 3), .int ((resetB b) 0 4), .int ((resetB b) 0 5), .int ((resetB b) 0 6)]))] rfl dX0_aimAtFamily_20 ?_
    refine x_aload_n C dX0_aimAtFamily_23 0 rfl ?_
    refine x_bipush (v := 16) C dX0_aimAtFamily_24 (by decide) ?_
    refine x_put (ref := "RomSearchBus$BusState") C inX0 tyX0 tyX0_ok nmX0 0 3 rfl rfl (by decide) kw_fl_X0_29 rfl rfl rfl rfl (Nat.le_of_ble_eq_true rfl) [((a 0), .inr (0, [.ref (a 1), .ref (a 6), .int q, .int 16, .int ((resetB b) 0 2), .int ((resetB b) 0 3), .int ((resetB b) 0 4), .int ((resetB b) 0 5), .int ((resetB b) 0 6)]))] rfl dX0_aimAtFamily_26 ?_
    refine x_aload_n C dX0_aimAtFamily_29 0 rfl ?_
    refine x_get (ref := "RomSearchBus$BusState") (v := .int q) C inX0 0 2 rfl rfl (by decide) kw_fl_X0_25 rfl rfl dX0_aimAtFamily_30 ?_
    have q_5 : f_X0_aimAtFamily_b b q = (rs (rs (resetB b) 0 0 q) 0 1 16) := (by unfold f_X0_aimAtFamily_b; rw [if_pos c_7])
    exact x_iret C hr hlocks rfl () (Eq.symm (by unfold f_X0_aimAtFamily_r; rw [if_pos c_7])) (by rw [q_5]; exact gEq.rf _) dX0_aimAtFamily_33
  · refine x_bipush (v := (-2)) C dX0_aimAtFamily_10 (by decide) ?_
    have q_6 : f_X0_aimAtFamily_b b q = b := (by unfold f_X0_aimAtFamily_b; rw [if_neg c_7])
    exact x_iret C hr hlocks rfl () (Eq.symm (by unfold f_X0_aimAtFamily_r; rw [if_neg c_7])) (by rw [q_6]; exact gEq.rf _) dX0_aimAtFamily_12
def f_X0_disturb_r (b : Nat → Nat → Int32) (q : Int32) : Int32 := if (-1) ≤ q ∧ q ≤ 31 then (b 0 5) else (-2)
def f_X0_disturb_b (b : Nat → Nat → Int32) (q : Int32) : Nat → Nat → Int32 := if (-1) ≤ q ∧ q ≤ 31 then (rs b 0 5 q) else b
set_option maxHeartbeats 4000000 in
set_option maxRecDepth 100000 in
theorem c_X0_disturb (l : Launch) (E : gE) (a : Nat → Nat) (b : Nat → Nat → Int32) (q : Int32)  : CtI l E yX0_disturb prog_2_method_7_code 3 (some .int) 1 22 0 0 [.ref (a 0), .int q] [((a 0), .inr (0, [.ref (a 1), .ref (a 6), .int (b 0 0), .int (b 0 1), .int (b 0 2), .int (b 0 3), .int (b 0 4), .int (b 0 5), .int (b 0 6)]))] (fun r (_ : Unit) => r = f_X0_disturb_r b q) (fun _ => [((a 0), .inr (0, [.ref (a 1), .ref (a 6), .int ((f_X0_disturb_b b q) 0 0), .int ((f_X0_disturb_b b q) 0 1), .int ((f_X0_disturb_b b q) 0 2), .int ((f_X0_disturb_b b q) 0 3), .int ((f_X0_disturb_b b q) 0 4), .int ((f_X0_disturb_b b q) 0 5), .int ((f_X0_disturb_b b q) 0 6)]))]) := by
  refine CtI.start (by decide) (Nat.le_of_ble_eq_true rfl) ?_
  intro p_ e_ s_ m_ below_ meth_ c_ A_ C hr hlocks hnm
  refine Wd.cast (lv1 := [(0, .ref (a 0)), (1, .int q)]) rfl rfl rfl ?_
  refine x_iload_n C dX0_disturb_0 1 rfl ?_
  refine x_iconst (v := (-1)) C dX0_disturb_1 (by decide) ?_
  refine x_bipush (v := 31) C dX0_disturb_2 (by decide) ?_
  refine x_callNI (wc := []) (wr := [((a 0), .inr (0, [.ref (a 1), .ref (a 6), .int (b 0 0), .int (b 0 1), .int (b 0 2), .int (b 0 3), .int (b 0 4), .int (b 0 5), .int (b 0 6)]))]) (As := [.int q, .int (-1), .int 31]) (rest := []) C (c_X5_isWithin l E q (-1) 31 ) (gWN (host := RX5) C (by unfold gNest; exact List.mem_of_getElem? (i := 2) rfl) kw_st_X5_isWithin kw_ini_X5 kw_code_X5_isWithin ga_X5_isWithin ⟨Nat.le_of_ble_eq_true rfl, Nat.le_of_ble_eq_true rfl⟩) [] [0] [0] rfl rfl rfl rfl (by decide) (fun _ => [((a 0), .inr (0, [.ref (a 1), .ref (a 6), .int (b 0 0), .int (b 0 1), .int (b 0 2), .int (b 0 3), .int (b 0 4), .int (b 0 5), .int (b 0 6)]))]) rfl (fun _ => rfl) rfl (Nat.le_of_ble_eq_true rfl) ⟨Nat.le_of_ble_eq_true rfl, Nat.le_of_ble_eq_true rfl⟩ rfl dX0_disturb_4 (fun r_1 _ e_2 => ?_)
  subst e_2
  refine x_ifB_ne (tgt := 13) C dX0_disturb_7 (by decide) (fun c_7 => ?_) (fun c_7 => ?_)
  · refine x_aload_n C dX0_disturb_13 0 rfl ?_
    refine x_get (ref := "RomSearchBus$BusState") (v := .int (b 0 5)) C inX0 0 7 rfl rfl (by decide) kw_fl_X0_42 rfl rfl dX0_disturb_14 ?_
    refine x_istore_n (lv1 := [(2, .int (b 0 5)), (0, .ref (a 0)), (1, .int q)]) C dX0_disturb_17 (by decide) rfl ?_
    refine x_aload_n C dX0_disturb_18 1 rfl ?_
    refine x_iload_n C dX0_disturb_19 2 rfl ?_
    refine x_put (ref := "RomSearchBus$BusState") C inX0 tyX0 tyX0_ok nmX0 0 7 rfl rfl (by decide) kw_fl_X0_42 rfl rfl rfl rfl (Nat.le_of_ble_eq_true rfl) [((a 0), .inr (0, [.ref (a 1), .ref (a 6), .int (b 0 0), .int (b 0 1), .int (b 0 2), .int (b 0 3), .int (b 0 4), .int q, .int (b 0 6)]))] rfl dX0_disturb_20 ?_
    refine x_iload_n C dX0_disturb_23 0 rfl ?_
    have q_3 : f_X0_disturb_b b q = (rs b 0 5 q) := (by unfold f_X0_disturb_b; rw [if_pos c_7])
    exact x_iret C hr hlocks rfl () (Eq.symm (by unfold f_X0_disturb_r; rw [if_pos c_7])) (by rw [q_3]; exact gEq.rf _) dX0_disturb_24
  · refine x_bipush (v := (-2)) C dX0_disturb_10 (by decide) ?_
    have q_4 : f_X0_disturb_b b q = b := (by unfold f_X0_disturb_b; rw [if_neg c_7])
    exact x_iret C hr hlocks rfl () (Eq.symm (by unfold f_X0_disturb_r; rw [if_neg c_7])) (by rw [q_4]; exact gEq.rf _) dX0_disturb_12
def f_X0_readSlot_r (b : Nat → Nat → Int32) (t : Int32) (q : Int32) : Int32 := if q = (b 0 5) then (1 - t) else t
def f_X0_readSlot_b (b : Nat → Nat → Int32) (t : Int32) (q : Int32) : Nat → Nat → Int32 := if q = (b 0 5) then (rs (rs b 0 6 ((b 0 6) + 1)) 0 5 (-1)) else (rs b 0 6 ((b 0 6) + 1))
set_option maxHeartbeats 4000000 in
set_option maxRecDepth 100000 in
theorem c_X0_readSlot (l : Launch) (E : gE) (a : Nat → Nat) (b : Nat → Nat → Int32) (t : Int32) (q : Int32)  : CtI l E yX0_readSlot prog_2_method_11_code 3 (some .int) 0 0 0 0 [.ref (a 0), .int t, .int q] [((a 0), .inr (0, [.ref (a 1), .ref (a 6), .int (b 0 0), .int (b 0 1), .int (b 0 2), .int (b 0 3), .int (b 0 4), .int (b 0 5), .int (b 0 6)]))] (fun r (_ : Unit) => r = f_X0_readSlot_r b t q) (fun _ => [((a 0), .inr (0, [.ref (a 1), .ref (a 6), .int ((f_X0_readSlot_b b t q) 0 0), .int ((f_X0_readSlot_b b t q) 0 1), .int ((f_X0_readSlot_b b t q) 0 2), .int ((f_X0_readSlot_b b t q) 0 3), .int ((f_X0_readSlot_b b t q) 0 4), .int ((f_X0_readSlot_b b t q) 0 5), .int ((f_X0_readSlot_b b t q) 0 6)]))]) := by
  refine CtI.start (by decide) (Nat.le_of_ble_eq_true rfl) ?_
  intro p_ e_ s_ m_ below_ meth_ c_ A_ C hr hlocks hnm
  refine Wd.cast (lv1 := [(0, .ref (a 0)), (1, .int t), (2, .int q)]) rfl rfl rfl ?_
  refine x_aload_n C dX0_readSlot_0 0 rfl ?_
  refine x_dup C dX0_readSlot_1 rfl ?_
  refine x_get (ref := "RomSearchBus$BusState") (v := .int (b 0 6)) C inX0 0 8 rfl rfl (by decide) kw_fl_X0_45 rfl rfl dX0_readSlot_2 ?_
  refine x_iconst (v := 1) C dX0_readSlot_5 (by decide) ?_
  refine x_iadd C dX0_readSlot_6 ?_
  refine x_put (ref := "RomSearchBus$BusState") C inX0 tyX0 tyX0_ok nmX0 0 8 rfl rfl (by decide) kw_fl_X0_45 rfl rfl rfl rfl (Nat.le_of_ble_eq_true rfl) [((a 0), .inr (0, [.ref (a 1), .ref (a 6), .int (b 0 0), .int (b 0 1), .int (b 0 2), .int (b 0 3), .int (b 0 4), .int (b 0 5), .int ((b 0 6) + 1)]))] rfl dX0_readSlot_7 ?_
  refine x_iload_n C dX0_readSlot_10 2 rfl ?_
  refine x_aload_n C dX0_readSlot_11 0 rfl ?_
  refine x_get (ref := "RomSearchBus$BusState") (v := .int (b 0 5)) C inX0 0 7 rfl rfl (by decide) kw_fl_X0_42 rfl rfl dX0_readSlot_12 ?_
  refine x_icmp_eq (tgt := 20) C dX0_readSlot_15 (by decide) (fun c_15 => ?_) (fun c_15 => ?_)
  · refine x_aload_n C dX0_readSlot_20 0 rfl ?_
    refine x_iconst (v := (-1)) C dX0_readSlot_21 (by decide) ?_
    refine x_put (ref := "RomSearchBus$BusState") C inX0 tyX0 tyX0_ok nmX0 0 7 rfl rfl (by decide) kw_fl_X0_42 rfl rfl rfl rfl (Nat.le_of_ble_eq_true rfl) [((a 0), .inr (0, [.ref (a 1), .ref (a 6), .int (b 0 0), .int (b 0 1), .int (b 0 2), .int (b 0 3), .int (b 0 4), .int (-1), .int ((b 0 6) + 1)]))] rfl dX0_readSlot_22 ?_
    refine x_iconst (v := 1) C dX0_readSlot_25 (by decide) ?_
    refine x_iload_n C dX0_readSlot_26 1 rfl ?_
    refine x_isub C dX0_readSlot_27 ?_
    have q_1 : f_X0_readSlot_b b t q = (rs (rs b 0 6 ((b 0 6) + 1)) 0 5 (-1)) := (by unfold f_X0_readSlot_b; rw [if_pos c_15])
    exact x_iret C hr hlocks rfl () (Eq.symm (by unfold f_X0_readSlot_r; rw [if_pos c_15])) (by rw [q_1]; exact gEq.rf _) dX0_readSlot_28
  · refine x_iload_n C dX0_readSlot_18 1 rfl ?_
    have q_2 : f_X0_readSlot_b b t q = (rs b 0 6 ((b 0 6) + 1)) := (by unfold f_X0_readSlot_b; rw [if_neg c_15])
    exact x_iret C hr hlocks rfl () (Eq.symm (by unfold f_X0_readSlot_r; rw [if_neg c_15])) (by rw [q_2]; exact gEq.rf _) dX0_readSlot_19
def f_X0_writeSlot_b (b : Nat → Nat → Int32) (t : Int32) (q : Int32) : Nat → Nat → Int32 := (rs (rs b 0 6 ((b 0 6) + 1)) 0 0 (((b 0 0) &&& ((1 <<< (q &&& 31)) ^^^ (-1))) ||| (t <<< (q &&& 31))))
set_option maxHeartbeats 4000000 in
set_option maxRecDepth 100000 in
theorem c_X0_writeSlot (l : Launch) (E : gE) (a : Nat → Nat) (b : Nat → Nat → Int32) (t : Int32) (q : Int32)  : CtV l E yX0_writeSlot prog_2_method_12_code 3 none 0 0 0 0 [.ref (a 0), .int t, .int q] [((a 0), .inr (0, [.ref (a 1), .ref (a 6), .int (b 0 0), .int (b 0 1), .int (b 0 2), .int (b 0 3), .int (b 0 4), .int (b 0 5), .int (b 0 6)]))] (fun _ : Unit => True) (fun _ => [((a 0), .inr (0, [.ref (a 1), .ref (a 6), .int ((f_X0_writeSlot_b b t q) 0 0), .int ((f_X0_writeSlot_b b t q) 0 1), .int ((f_X0_writeSlot_b b t q) 0 2), .int ((f_X0_writeSlot_b b t q) 0 3), .int ((f_X0_writeSlot_b b t q) 0 4), .int ((f_X0_writeSlot_b b t q) 0 5), .int ((f_X0_writeSlot_b b t q) 0 6)]))]) := by
  refine CtV.start (by decide) (Nat.le_of_ble_eq_true rfl) ?_
  intro p_ e_ s_ m_ below_ meth_ c_ A_ C hr hlocks hnm
  refine Wd.cast (lv1 := [(0, .ref (a 0)), (1, .int t), (2, .int q)]) rfl rfl rfl ?_
  refine x_aload_n C dX0_writeSlot_0 0 rfl ?_
  refine x_dup C dX0_writeSlot_1 rfl ?_
  refine x_get (ref := "RomSearchBus$BusState") (v := .int (b 0 6)) C inX0 0 8 rfl rfl (by decide) kw_fl_X0_45 rfl rfl dX0_writeSlot_2 ?_
  refine x_iconst (v := 1) C dX0_writeSlot_5 (by decide) ?_
  refine x_iadd C dX0_writeSlot_6 ?_
  refine x_put (ref := "RomSearchBus$BusState") C inX0 tyX0 tyX0_ok nmX0 0 8 rfl rfl (by decide) kw_fl_X0_45 rfl rfl rfl rfl (Nat.le_of_ble_eq_true rfl) [((a 0), .inr (0, [.ref (a 1), .ref (a 6), .int (b 0 0), .int (b 0 1), .int (b 0 2), .int (b 0 3), .int (b 0 4), .int (b 0 5), .int ((b 0 6) + 1)]))] rfl dX0_writeSlot_7 ?_
  refine x_aload_n C dX0_writeSlot_10 0 rfl ?_
  refine x_aload_n C dX0_writeSlot_11 0 rfl ?_
  refine x_get (ref := "RomSearchBus$BusState") (v := .int (b 0 0)) C inX0 0 2 rfl rfl (by decide) kw_fl_X0_25 rfl rfl dX0_writeSlot_12 ?_
  refine x_iconst (v := 1) C dX0_writeSlot_15 (by decide) ?_
  refine x_iload_n C dX0_writeSlot_16 2 rfl ?_
  refine x_ishl C dX0_writeSlot_17 ?_
  refine x_iconst (v := (-1)) C dX0_writeSlot_18 (by decide) ?_
  refine x_ixor C dX0_writeSlot_19 ?_
  refine x_iand C dX0_writeSlot_20 ?_
  refine x_iload_n C dX0_writeSlot_21 1 rfl ?_
  refine x_iload_n C dX0_writeSlot_22 2 rfl ?_
  refine x_ishl C dX0_writeSlot_23 ?_
  refine x_ior C dX0_writeSlot_24 ?_
  refine x_put (ref := "RomSearchBus$BusState") C inX0 tyX0 tyX0_ok nmX0 0 2 rfl rfl (by decide) kw_fl_X0_25 rfl rfl rfl rfl (Nat.le_of_ble_eq_true rfl) [((a 0), .inr (0, [.ref (a 1), .ref (a 6), .int (((b 0 0) &&& ((1 <<< (q &&& 31)) ^^^ (-1))) ||| (t <<< (q &&& 31))), .int (b 0 1), .int (b 0 2), .int (b 0 3), .int (b 0 4), .int (b 0 5), .int ((b 0 6) + 1)]))] rfl dX0_writeSlot_25 ?_
  have q_1 : f_X0_writeSlot_b b t q = (rs (rs b 0 6 ((b 0 6) + 1)) 0 0 (((b 0 0) &&& ((1 <<< (q &&& 31)) ^^^ (-1))) ||| (t <<< (q &&& 31)))) := (by unfold f_X0_writeSlot_b; rfl)
  exact x_vret C hr hlocks () trivial (by rw [q_1]; exact gEq.rf _) dX0_writeSlot_28
def f_X0_directionAt_r (b : Nat → Nat → Int32) (q : Int32) : Int32 := if (b 0 1) ≤ q then (if q = (b 0 1) then 1 else 0) else (((b 0 0) >>> (q &&& 31)) &&& 1)
set_option maxHeartbeats 4000000 in
set_option maxRecDepth 100000 in
theorem c_X0_directionAt (l : Launch) (E : gE) (a : Nat → Nat) (b : Nat → Nat → Int32) (q : Int32)  : CtI l E yX0_directionAt prog_2_method_13_code 2 (some .int) 1 21 0 0 [.ref (a 0), .int q] [((a 0), .inr (0, [.ref (a 1), .ref (a 6), .int (b 0 0), .int (b 0 1), .int (b 0 2), .int (b 0 3), .int (b 0 4), .int (b 0 5), .int (b 0 6)]))] (fun r (_ : Unit) => r = f_X0_directionAt_r b q) (fun _ => [((a 0), .inr (0, [.ref (a 1), .ref (a 6), .int (b 0 0), .int (b 0 1), .int (b 0 2), .int (b 0 3), .int (b 0 4), .int (b 0 5), .int (b 0 6)]))]) := by
  refine CtI.start (by decide) (Nat.le_of_ble_eq_true rfl) ?_
  intro p_ e_ s_ m_ below_ meth_ c_ A_ C hr hlocks hnm
  refine Wd.cast (lv1 := [(0, .ref (a 0)), (1, .int q)]) rfl rfl rfl ?_
  refine x_iload_n C dX0_directionAt_0 1 rfl ?_
  refine x_aload_n C dX0_directionAt_1 0 rfl ?_
  refine x_get (ref := "RomSearchBus$BusState") (v := .int (b 0 1)) C inX0 0 3 rfl rfl (by decide) kw_fl_X0_29 rfl rfl dX0_directionAt_2 ?_
  refine x_icmp_ge (tgt := 17) C dX0_directionAt_5 (by decide) (fun c_5 => ?_) (fun c_5 => ?_)
  · refine x_iload_n C dX0_directionAt_17 1 rfl ?_
    refine x_aload_n C dX0_directionAt_18 0 rfl ?_
    refine x_get (ref := "RomSearchBus$BusState") (v := .int (b 0 1)) C inX0 0 3 rfl rfl (by decide) kw_fl_X0_29 rfl rfl dX0_directionAt_19 ?_
    refine x_icmp_ne (tgt := 29) C dX0_directionAt_22 (by decide) (fun c_22 => ?_) (fun c_22 => ?_)
    · refine x_iconst (v := 0) C dX0_directionAt_29 (by decide) ?_
      exact x_iret C hr hlocks rfl () (Eq.symm (by unfold f_X0_directionAt_r; rw [if_pos c_5, if_neg c_22])) (gEq.rf _) dX0_directionAt_30
    · refine x_iconst (v := 1) C dX0_directionAt_25 (by decide) ?_
      refine x_goto (tgt := 30) C dX0_directionAt_26 (by decide) ?_
      exact x_iret C hr hlocks rfl () (Eq.symm (by unfold f_X0_directionAt_r; rw [if_pos c_5, if_pos c_22])) (gEq.rf _) dX0_directionAt_30
  · refine x_aload_n C dX0_directionAt_8 0 rfl ?_
    refine x_get (ref := "RomSearchBus$BusState") (v := .int (b 0 0)) C inX0 0 2 rfl rfl (by decide) kw_fl_X0_25 rfl rfl dX0_directionAt_9 ?_
    refine x_iload_n C dX0_directionAt_12 1 rfl ?_
    refine x_callNI (wc := []) (wr := [((a 0), .inr (0, [.ref (a 1), .ref (a 6), .int (b 0 0), .int (b 0 1), .int (b 0 2), .int (b 0 3), .int (b 0 4), .int (b 0 5), .int (b 0 6)]))]) (As := [.int (b 0 0), .int q]) (rest := []) C (c_X5_bitAt l E (b 0 0) q ) (gWN (host := RX5) C (by unfold gNest; exact List.mem_of_getElem? (i := 4) rfl) kw_st_X5_bitAt kw_ini_X5 kw_code_X5_bitAt ga_X5_bitAt ⟨Nat.le_of_ble_eq_true rfl, Nat.le_of_ble_eq_true rfl⟩) [] [0] [0] rfl rfl rfl rfl (by decide) (fun _ => [((a 0), .inr (0, [.ref (a 1), .ref (a 6), .int (b 0 0), .int (b 0 1), .int (b 0 2), .int (b 0 3), .int (b 0 4), .int (b 0 5), .int (b 0 6)]))]) rfl (fun _ => rfl) rfl (Nat.le_of_ble_eq_true rfl) ⟨Nat.le_of_ble_eq_true rfl, Nat.le_of_ble_eq_true rfl⟩ rfl dX0_directionAt_13 (fun r_1 _ e_2 => ?_)
    subst e_2
    exact x_iret C hr hlocks rfl () (Eq.symm (by unfold f_X0_directionAt_r; rw [if_neg c_5])) (gEq.rf _) dX0_directionAt_16
def f_X0_noteFamilyZero_b (b : Nat → Nat → Int32) (q : Int32) : Nat → Nat → Int32 := if 3 < q then b else (rs b 0 2 q)
set_option maxHeartbeats 4000000 in
set_option maxRecDepth 100000 in
theorem c_X0_noteFamilyZero (l : Launch) (E : gE) (a : Nat → Nat) (b : Nat → Nat → Int32) (q : Int32)  : CtV l E yX0_noteFamilyZero prog_2_method_14_code 2 none 0 0 0 0 [.ref (a 0), .int q] [((a 0), .inr (0, [.ref (a 1), .ref (a 6), .int (b 0 0), .int (b 0 1), .int (b 0 2), .int (b 0 3), .int (b 0 4), .int (b 0 5), .int (b 0 6)]))] (fun _ : Unit => True) (fun _ => [((a 0), .inr (0, [.ref (a 1), .ref (a 6), .int ((f_X0_noteFamilyZero_b b q) 0 0), .int ((f_X0_noteFamilyZero_b b q) 0 1), .int ((f_X0_noteFamilyZero_b b q) 0 2), .int ((f_X0_noteFamilyZero_b b q) 0 3), .int ((f_X0_noteFamilyZero_b b q) 0 4), .int ((f_X0_noteFamilyZero_b b q) 0 5), .int ((f_X0_noteFamilyZero_b b q) 0 6)]))]) := by
  refine CtV.start (by decide) (Nat.le_of_ble_eq_true rfl) ?_
  intro p_ e_ s_ m_ below_ meth_ c_ A_ C hr hlocks hnm
  refine Wd.cast (lv1 := [(0, .ref (a 0)), (1, .int q)]) rfl rfl rfl ?_
  refine x_iload_n C dX0_noteFamilyZero_0 1 rfl ?_
  refine x_iconst (v := 3) C dX0_noteFamilyZero_1 (by decide) ?_
  refine x_icmp_gt (tgt := 10) C dX0_noteFamilyZero_2 (by decide) (fun c_2 => ?_) (fun c_2 => ?_)
  · have q_1 : f_X0_noteFamilyZero_b b q = b := (by unfold f_X0_noteFamilyZero_b; rw [if_pos c_2])
    exact x_vret C hr hlocks () trivial (by rw [q_1]; exact gEq.rf _) dX0_noteFamilyZero_10
  · refine x_aload_n C dX0_noteFamilyZero_5 0 rfl ?_
    refine x_iload_n C dX0_noteFamilyZero_6 1 rfl ?_
    refine x_put (ref := "RomSearchBus$BusState") C inX0 tyX0 tyX0_ok nmX0 0 4 rfl rfl (by decide) kw_fl_X0_32 rfl rfl rfl rfl (Nat.le_of_ble_eq_true rfl) [((a 0), .inr (0, [.ref (a 1), .ref (a 6), .int (b 0 0), .int (b 0 1), .int q, .int (b 0 3), .int (b 0 4), .int (b 0 5), .int (b 0 6)]))] rfl dX0_noteFamilyZero_7 ?_
    have q_2 : f_X0_noteFamilyZero_b b q = (rs b 0 2 q) := (by unfold f_X0_noteFamilyZero_b; rw [if_neg c_2])
    exact x_vret C hr hlocks () trivial (by rw [q_2]; exact gEq.rf _) dX0_noteFamilyZero_10
def f_X0_mixInto_r (b : Nat → Nat → Int32) (d : Nat → Nat → Int32) (h : Nat → Nat → Int32) (z : Int64) (n : Nat) (nh : Nat) : Int64 := if (b 0 3) = 0 then (mixH h (31 * (31 * (31 * (31 * (31 * (31 * (31 * (mixD d z n) + (b 0 0).toInt64) + (b 0 1).toInt64) + (b 0 2).toInt64) + (0 : Int32).toInt64) + (b 0 4).toInt64) + (b 0 5).toInt64) + (b 0 6).toInt64) nh) else (mixH h (31 * (31 * (31 * (31 * (31 * (31 * (31 * (mixD d z n) + (b 0 0).toInt64) + (b 0 1).toInt64) + (b 0 2).toInt64) + (1 : Int32).toInt64) + (b 0 4).toInt64) + (b 0 5).toInt64) + (b 0 6).toInt64) nh)
set_option maxHeartbeats 4000000 in
set_option maxRecDepth 100000 in
theorem c_X0_mixInto (l : Launch) (E : gE) (a : Nat → Nat) (b : Nat → Nat → Int32) (d : Nat → Nat → Int32) (h : Nat → Nat → Int32) (z : Int64) (n : Nat) (nh : Nat) (hn : d 4 0 = nI n) (h8 : n ≤ 8) (hm : h 1 0 = nI nh) (h6 : nh ≤ 6) : CtL l E yX0_mixInto prog_2_method_9_code 5 (some .long) 2 47 0 0 [.ref (a 0), .long z] [((a 0), .inr (0, [.ref (a 1), .ref (a 6), .int (b 0 0), .int (b 0 1), .int (b 0 2), .int (b 0 3), .int (b 0 4), .int (b 0 5), .int (b 0 6)])), ((a 1), .inr (2, [.ref (a 2), .ref (a 3), .ref (a 4), .ref (a 5), .int (d 4 0)])), ((a 2), .inl (E.2.1, 8, .inl (d 0))), ((a 3), .inl (E.2.1, 8, .inl (d 1))), ((a 4), .inl (E.2.1, 8, .inl (d 2))), ((a 5), .inl (E.2.1, 8, .inl (d 3))), ((a 6), .inr (3, [.ref (a 7), .int (h 1 0)])), ((a 7), .inl (E.2.1, 6, .inl (h 0)))] (fun r (_ : Unit) => r = f_X0_mixInto_r b d h z n nh) (fun _ => [((a 0), .inr (0, [.ref (a 1), .ref (a 6), .int (b 0 0), .int (b 0 1), .int (b 0 2), .int (b 0 3), .int (b 0 4), .int (b 0 5), .int (b 0 6)])), ((a 1), .inr (2, [.ref (a 2), .ref (a 3), .ref (a 4), .ref (a 5), .int (d 4 0)])), ((a 2), .inl (E.2.1, 8, .inl (d 0))), ((a 3), .inl (E.2.1, 8, .inl (d 1))), ((a 4), .inl (E.2.1, 8, .inl (d 2))), ((a 5), .inl (E.2.1, 8, .inl (d 3))), ((a 6), .inr (3, [.ref (a 7), .int (h 1 0)])), ((a 7), .inl (E.2.1, 6, .inl (h 0)))]) := by
  refine CtL.start (by decide) (Nat.le_of_ble_eq_true rfl) ?_
  intro p_ e_ s_ m_ below_ meth_ c_ A_ C hr hlocks hnm
  refine Wd.cast (lv1 := [(0, .ref (a 0)), (1, .long z)]) rfl rfl rfl ?_
  refine x_aload_n C dX0_mixInto_0 0 rfl ?_
  refine x_get (ref := "RomSearchBus$BusState") (v := .ref (a 1)) C inX0 0 0 rfl rfl (by decide) kw_fl_X0_12 rfl rfl dX0_mixInto_1 ?_
  refine x_lload_n C dX0_mixInto_4 1 rfl ?_
  refine x_callVL (wc := [((a 1), .inr (2, [.ref (a 2), .ref (a 3), .ref (a 4), .ref (a 5), .int (d 4 0)])), ((a 2), .inl (E.2.1, 8, .inl (d 0))), ((a 3), .inl (E.2.1, 8, .inl (d 1))), ((a 4), .inl (E.2.1, 8, .inl (d 2))), ((a 5), .inl (E.2.1, 8, .inl (d 3)))]) (wr := [((a 0), .inr (0, [.ref (a 1), .ref (a 6), .int (b 0 0), .int (b 0 1), .int (b 0 2), .int (b 0 3), .int (b 0 4), .int (b 0 5), .int (b 0 6)])), ((a 6), .inr (3, [.ref (a 7), .int (h 1 0)])), ((a 7), .inl (E.2.1, 6, .inl (h 0)))]) (As := [.long z]) (rest := []) (ci := 2) (q0 := 1) C (c_X2_mixInto l E a d z n hn h8) (gWV C kw_ml_X0_100 kw_im_X2_mixInto kw_sel_X2_mixInto kw_ini_X2 kw_code_X2_mixInto ga_X2_mixInto ⟨Nat.le_of_ble_eq_true rfl, Nat.le_of_ble_eq_true rfl⟩) rfl rfl [1, 2, 3, 4, 5] [0, 6, 7] [0, 3, 4, 5, 6, 7, 1, 2] rfl rfl rfl rfl (by decide) (fun _ => [((a 0), .inr (0, [.ref (a 1), .ref (a 6), .int (b 0 0), .int (b 0 1), .int (b 0 2), .int (b 0 3), .int (b 0 4), .int (b 0 5), .int (b 0 6)])), ((a 1), .inr (2, [.ref (a 2), .ref (a 3), .ref (a 4), .ref (a 5), .int (d 4 0)])), ((a 2), .inl (E.2.1, 8, .inl (d 0))), ((a 3), .inl (E.2.1, 8, .inl (d 1))), ((a 4), .inl (E.2.1, 8, .inl (d 2))), ((a 5), .inl (E.2.1, 8, .inl (d 3))), ((a 6), .inr (3, [.ref (a 7), .int (h 1 0)])), ((a 7), .inl (E.2.1, 6, .inl (h 0)))]) rfl (fun _ => rfl) rfl (Nat.le_of_ble_eq_true rfl) ⟨Nat.le_of_ble_eq_true rfl, Nat.le_of_ble_eq_true rfl⟩ rfl dX0_mixInto_5 (fun r_1 _ e_2 => ?_)
  subst e_2
  refine x_lstore_n (lv1 := [(3, .long (mixD d z n)), (0, .ref (a 0)), (1, .long z)]) C dX0_mixInto_8 (by decide) rfl ?_
  refine x_lload_n C dX0_mixInto_9 0 rfl ?_
  refine x_aload_n C dX0_mixInto_10 1 rfl ?_
  refine x_get (ref := "RomSearchBus$BusState") (v := .int (b 0 0)) C inX0 0 2 rfl rfl (by decide) kw_fl_X0_25 rfl rfl dX0_mixInto_11 ?_
  refine x_callNL (wc := []) (wr := [((a 0), .inr (0, [.ref (a 1), .ref (a 6), .int (b 0 0), .int (b 0 1), .int (b 0 2), .int (b 0 3), .int (b 0 4), .int (b 0 5), .int (b 0 6)])), ((a 1), .inr (2, [.ref (a 2), .ref (a 3), .ref (a 4), .ref (a 5), .int (d 4 0)])), ((a 2), .inl (E.2.1, 8, .inl (d 0))), ((a 3), .inl (E.2.1, 8, .inl (d 1))), ((a 4), .inl (E.2.1, 8, .inl (d 2))), ((a 5), .inl (E.2.1, 8, .inl (d 3))), ((a 6), .inr (3, [.ref (a 7), .int (h 1 0)])), ((a 7), .inl (E.2.1, 6, .inl (h 0)))]) (As := [.long (mixD d z n), .int (b 0 0)]) (rest := []) C (c_X5_mixed l E (mixD d z n) (b 0 0) ) (gWN (host := RX5) C (by unfold gNest; exact List.mem_of_getElem? (i := 8) rfl) kw_st_X5_mixed kw_ini_X5 kw_code_X5_mixed ga_X5_mixed ⟨Nat.le_of_ble_eq_true rfl, Nat.le_of_ble_eq_true rfl⟩) [] [0, 1, 2, 3, 4, 5, 6, 7] [0, 1, 2, 3, 4, 5, 6, 7] rfl rfl rfl rfl (by decide) (fun _ => [((a 0), .inr (0, [.ref (a 1), .ref (a 6), .int (b 0 0), .int (b 0 1), .int (b 0 2), .int (b 0 3), .int (b 0 4), .int (b 0 5), .int (b 0 6)])), ((a 1), .inr (2, [.ref (a 2), .ref (a 3), .ref (a 4), .ref (a 5), .int (d 4 0)])), ((a 2), .inl (E.2.1, 8, .inl (d 0))), ((a 3), .inl (E.2.1, 8, .inl (d 1))), ((a 4), .inl (E.2.1, 8, .inl (d 2))), ((a 5), .inl (E.2.1, 8, .inl (d 3))), ((a 6), .inr (3, [.ref (a 7), .int (h 1 0)])), ((a 7), .inl (E.2.1, 6, .inl (h 0)))]) rfl (fun _ => rfl) rfl (Nat.le_of_ble_eq_true rfl) ⟨Nat.le_of_ble_eq_true rfl, Nat.le_of_ble_eq_true rfl⟩ rfl dX0_mixInto_14 (fun r_3 _ e_4 => ?_)
  subst e_4
  refine x_lstore_n (lv1 := [(3, .long (31 * (mixD d z n) + (b 0 0).toInt64)), (0, .ref (a 0)), (1, .long z)]) C dX0_mixInto_17 (by decide) rfl ?_
  refine x_lload_n C dX0_mixInto_18 0 rfl ?_
  refine x_aload_n C dX0_mixInto_19 1 rfl ?_
  refine x_get (ref := "RomSearchBus$BusState") (v := .int (b 0 1)) C inX0 0 3 rfl rfl (by decide) kw_fl_X0_29 rfl rfl dX0_mixInto_20 ?_
  refine x_callNL (wc := []) (wr := [((a 0), .inr (0, [.ref (a 1), .ref (a 6), .int (b 0 0), .int (b 0 1), .int (b 0 2), .int (b 0 3), .int (b 0 4), .int (b 0 5), .int (b 0 6)])), ((a 1), .inr (2, [.ref (a 2), .ref (a 3), .ref (a 4), .ref (a 5), .int (d 4 0)])), ((a 2), .inl (E.2.1, 8, .inl (d 0))), ((a 3), .inl (E.2.1, 8, .inl (d 1))), ((a 4), .inl (E.2.1, 8, .inl (d 2))), ((a 5), .inl (E.2.1, 8, .inl (d 3))), ((a 6), .inr (3, [.ref (a 7), .int (h 1 0)])), ((a 7), .inl (E.2.1, 6, .inl (h 0)))]) (As := [.long (31 * (mixD d z n) + (b 0 0).toInt64), .int (b 0 1)]) (rest := []) C (c_X5_mixed l E (31 * (mixD d z n) + (b 0 0).toInt64) (b 0 1) ) (gWN (host := RX5) C (by unfold gNest; exact List.mem_of_getElem? (i := 8) rfl) kw_st_X5_mixed kw_ini_X5 kw_code_X5_mixed ga_X5_mixed ⟨Nat.le_of_ble_eq_true rfl, Nat.le_of_ble_eq_true rfl⟩) [] [0, 1, 2, 3, 4, 5, 6, 7] [0, 1, 2, 3, 4, 5, 6, 7] rfl rfl rfl rfl (by decide) (fun _ => [((a 0), .inr (0, [.ref (a 1), .ref (a 6), .int (b 0 0), .int (b 0 1), .int (b 0 2), .int (b 0 3), .int (b 0 4), .int (b 0 5), .int (b 0 6)])), ((a 1), .inr (2, [.ref (a 2), .ref (a 3), .ref (a 4), .ref (a 5), .int (d 4 0)])), ((a 2), .inl (E.2.1, 8, .inl (d 0))), ((a 3), .inl (E.2.1, 8, .inl (d 1))), ((a 4), .inl (E.2.1, 8, .inl (d 2))), ((a 5), .inl (E.2.1, 8, .inl (d 3))), ((a 6), .inr (3, [.ref (a 7), .int (h 1 0)])), ((a 7), .inl (E.2.1, 6, .inl (h 0)))]) rfl (fun _ => rfl) rfl (Nat.le_of_ble_eq_true rfl) ⟨Nat.le_of_ble_eq_true rfl, Nat.le_of_ble_eq_true rfl⟩ rfl dX0_mixInto_23 (fun r_5 _ e_6 => ?_)
  subst e_6
  refine x_lstore_n (lv1 := [(3, .long (31 * (31 * (mixD d z n) + (b 0 0).toInt64) + (b 0 1).toInt64)), (0, .ref (a 0)), (1, .long z)]) C dX0_mixInto_26 (by decide) rfl ?_
  refine x_lload_n C dX0_mixInto_27 0 rfl ?_
  refine x_aload_n C dX0_mixInto_28 1 rfl ?_
  refine x_get (ref := "RomSearchBus$BusState") (v := .int (b 0 2)) C inX0 0 4 rfl rfl (by decide) kw_fl_X0_32 rfl rfl dX0_mixInto_29 ?_
  refine x_callNL (wc := []) (wr := [((a 0), .inr (0, [.ref (a 1), .ref (a 6), .int (b 0 0), .int (b 0 1), .int (b 0 2), .int (b 0 3), .int (b 0 4), .int (b 0 5), .int (b 0 6)])), ((a 1), .inr (2, [.ref (a 2), .ref (a 3), .ref (a 4), .ref (a 5), .int (d 4 0)])), ((a 2), .inl (E.2.1, 8, .inl (d 0))), ((a 3), .inl (E.2.1, 8, .inl (d 1))), ((a 4), .inl (E.2.1, 8, .inl (d 2))), ((a 5), .inl (E.2.1, 8, .inl (d 3))), ((a 6), .inr (3, [.ref (a 7), .int (h 1 0)])), ((a 7), .inl (E.2.1, 6, .inl (h 0)))]) (As := [.long (31 * (31 * (mixD d z n) + (b 0 0).toInt64) + (b 0 1).toInt64), .int (b 0 2)]) (rest := []) C (c_X5_mixed l E (31 * (31 * (mixD d z n) + (b 0 0).toInt64) + (b 0 1).toInt64) (b 0 2) ) (gWN (host := RX5) C (by unfold gNest; exact List.mem_of_getElem? (i := 8) rfl) kw_st_X5_mixed kw_ini_X5 kw_code_X5_mixed ga_X5_mixed ⟨Nat.le_of_ble_eq_true rfl, Nat.le_of_ble_eq_true rfl⟩) [] [0, 1, 2, 3, 4, 5, 6, 7] [0, 1, 2, 3, 4, 5, 6, 7] rfl rfl rfl rfl (by decide) (fun _ => [((a 0), .inr (0, [.ref (a 1), .ref (a 6), .int (b 0 0), .int (b 0 1), .int (b 0 2), .int (b 0 3), .int (b 0 4), .int (b 0 5), .int (b 0 6)])), ((a 1), .inr (2, [.ref (a 2), .ref (a 3), .ref (a 4), .ref (a 5), .int (d 4 0)])), ((a 2), .inl (E.2.1, 8, .inl (d 0))), ((a 3), .inl (E.2.1, 8, .inl (d 1))), ((a 4), .inl (E.2.1, 8, .inl (d 2))), ((a 5), .inl (E.2.1, 8, .inl (d 3))), ((a 6), .inr (3, [.ref (a 7), .int (h 1 0)])), ((a 7), .inl (E.2.1, 6, .inl (h 0)))]) rfl (fun _ => rfl) rfl (Nat.le_of_ble_eq_true rfl) ⟨Nat.le_of_ble_eq_true rfl, Nat.le_of_ble_eq_true rfl⟩ rfl dX0_mixInto_32 (fun r_7 _ e_8 => ?_)
  subst e_8
  refine x_lstore_n (lv1 := [(3, .long (31 * (31 * (31 * (mixD d z n) + (b 0 0).toInt64) + (b 0 1).toInt64) + (b 0 2).toInt64)), (0, .ref (a 0)), (1, .long z)]) C dX0_mixInto_35 (by decide) rfl ?_
  refine x_lload_n C dX0_mixInto_36 0 rfl ?_
  refine x_aload_n C dX0_mixInto_37 1 rfl ?_
  refine x_get (ref := "RomSearchBus$BusState") (v := .int (b 0 3)) C inX0 0 5 rfl rfl (by decide) kw_fl_X0_35 rfl rfl dX0_mixInto_38 ?_
  refine x_if_eq (tgt := 48) C dX0_mixInto_41 (by decide) (fun c_41 => ?_) (fun c_41 => ?_)
  · refine x_iconst (v := 0) C dX0_mixInto_48 (by decide) ?_
    refine x_callNL (wc := []) (wr := [((a 0), .inr (0, [.ref (a 1), .ref (a 6), .int (b 0 0), .int (b 0 1), .int (b 0 2), .int (b 0 3), .int (b 0 4), .int (b 0 5), .int (b 0 6)])), ((a 1), .inr (2, [.ref (a 2), .ref (a 3), .ref (a 4), .ref (a 5), .int (d 4 0)])), ((a 2), .inl (E.2.1, 8, .inl (d 0))), ((a 3), .inl (E.2.1, 8, .inl (d 1))), ((a 4), .inl (E.2.1, 8, .inl (d 2))), ((a 5), .inl (E.2.1, 8, .inl (d 3))), ((a 6), .inr (3, [.ref (a 7), .int (h 1 0)])), ((a 7), .inl (E.2.1, 6, .inl (h 0)))]) (As := [.long (31 * (31 * (31 * (mixD d z n) + (b 0 0).toInt64) + (b 0 1).toInt64) + (b 0 2).toInt64), .int 0]) (rest := []) C (c_X5_mixed l E (31 * (31 * (31 * (mixD d z n) + (b 0 0).toInt64) + (b 0 1).toInt64) + (b 0 2).toInt64) 0 ) (gWN (host := RX5) C (by unfold gNest; exact List.mem_of_getElem? (i := 8) rfl) kw_st_X5_mixed kw_ini_X5 kw_code_X5_mixed ga_X5_mixed ⟨Nat.le_of_ble_eq_true rfl, Nat.le_of_ble_eq_true rfl⟩) [] [0, 1, 2, 3, 4, 5, 6, 7] [0, 1, 2, 3, 4, 5, 6, 7] rfl rfl rfl rfl (by decide) (fun _ => [((a 0), .inr (0, [.ref (a 1), .ref (a 6), .int (b 0 0), .int (b 0 1), .int (b 0 2), .int (b 0 3), .int (b 0 4), .int (b 0 5), .int (b 0 6)])), ((a 1), .inr (2, [.ref (a 2), .ref (a 3), .ref (a 4), .ref (a 5), .int (d 4 0)])), ((a 2), .inl (E.2.1, 8, .inl (d 0))), ((a 3), .inl (E.2.1, 8, .inl (d 1))), ((a 4), .inl (E.2.1, 8, .inl (d 2))), ((a 5), .inl (E.2.1, 8, .inl (d 3))), ((a 6), .inr (3, [.ref (a 7), .int (h 1 0)])), ((a 7), .inl (E.2.1, 6, .inl (h 0)))]) rfl (fun _ => rfl) rfl (Nat.le_of_ble_eq_true rfl) ⟨Nat.le_of_ble_eq_true rfl, Nat.le_of_ble_eq_true rfl⟩ rfl dX0_mixInto_49 (fun r_9 _ e_10 => ?_)
    subst e_10
    refine x_lstore_n (lv1 := [(3, .long (31 * (31 * (31 * (31 * (mixD d z n) + (b 0 0).toInt64) + (b 0 1).toInt64) + (b 0 2).toInt64) + (0 : Int32).toInt64)), (0, .ref (a 0)), (1, .long z)]) C dX0_mixInto_52 (by decide) rfl ?_
    refine x_lload_n C dX0_mixInto_53 0 rfl ?_
    refine x_aload_n C dX0_mixInto_54 1 rfl ?_
    refine x_get (ref := "RomSearchBus$BusState") (v := .int (b 0 4)) C inX0 0 6 rfl rfl (by decide) kw_fl_X0_39 rfl rfl dX0_mixInto_55 ?_
    refine x_callNL (wc := []) (wr := [((a 0), .inr (0, [.ref (a 1), .ref (a 6), .int (b 0 0), .int (b 0 1), .int (b 0 2), .int (b 0 3), .int (b 0 4), .int (b 0 5), .int (b 0 6)])), ((a 1), .inr (2, [.ref (a 2), .ref (a 3), .ref (a 4), .ref (a 5), .int (d 4 0)])), ((a 2), .inl (E.2.1, 8, .inl (d 0))), ((a 3), .inl (E.2.1, 8, .inl (d 1))), ((a 4), .inl (E.2.1, 8, .inl (d 2))), ((a 5), .inl (E.2.1, 8, .inl (d 3))), ((a 6), .inr (3, [.ref (a 7), .int (h 1 0)])), ((a 7), .inl (E.2.1, 6, .inl (h 0)))]) (As := [.long (31 * (31 * (31 * (31 * (mixD d z n) + (b 0 0).toInt64) + (b 0 1).toInt64) + (b 0 2).toInt64) + (0 : Int32).toInt64), .int (b 0 4)]) (rest := []) C (c_X5_mixed l E (31 * (31 * (31 * (31 * (mixD d z n) + (b 0 0).toInt64) + (b 0 1).toInt64) + (b 0 2).toInt64) + (0 : Int32).toInt64) (b 0 4) ) (gWN (host := RX5) C (by unfold gNest; exact List.mem_of_getElem? (i := 8) rfl) kw_st_X5_mixed kw_ini_X5 kw_code_X5_mixed ga_X5_mixed ⟨Nat.le_of_ble_eq_true rfl, Nat.le_of_ble_eq_true rfl⟩) [] [0, 1, 2, 3, 4, 5, 6, 7] [0, 1, 2, 3, 4, 5, 6, 7] rfl rfl rfl rfl (by decide) (fun _ => [((a 0), .inr (0, [.ref (a 1), .ref (a 6), .int (b 0 0), .int (b 0 1), .int (b 0 2), .int (b 0 3), .int (b 0 4), .int (b 0 5), .int (b 0 6)])), ((a 1), .inr (2, [.ref (a 2), .ref (a 3), .ref (a 4), .ref (a 5), .int (d 4 0)])), ((a 2), .inl (E.2.1, 8, .inl (d 0))), ((a 3), .inl (E.2.1, 8, .inl (d 1))), ((a 4), .inl (E.2.1, 8, .inl (d 2))), ((a 5), .inl (E.2.1, 8, .inl (d 3))), ((a 6), .inr (3, [.ref (a 7), .int (h 1 0)])), ((a 7), .inl (E.2.1, 6, .inl (h 0)))]) rfl (fun _ => rfl) rfl (Nat.le_of_ble_eq_true rfl) ⟨Nat.le_of_ble_eq_true rfl, Nat.le_of_ble_eq_true rfl⟩ rfl dX0_mixInto_58 (fun r_11 _ e_12 => ?_)
    subst e_12
    refine x_lstore_n (lv1 := [(3, .long (31 * (31 * (31 * (31 * (31 * (mixD d z n) + (b 0 0).toInt64) + (b 0 1).toInt64) + (b 0 2).toInt64) + (0 : Int32).toInt64) + (b 0 4).toInt64)), (0, .ref (a 0)), (1, .long z)]) C dX0_mixInto_61 (by decide) rfl ?_
    refine x_lload_n C dX0_mixInto_62 0 rfl ?_
    refine x_aload_n C dX0_mixInto_63 1 rfl ?_
    refine x_get (ref := "RomSearchBus$BusState") (v := .int (b 0 5)) C inX0 0 7 rfl rfl (by decide) kw_fl_X0_42 rfl rfl dX0_mixInto_64 ?_
    refine x_callNL (wc := []) (wr := [((a 0), .inr (0, [.ref (a 1), .ref (a 6), .int (b 0 0), .int (b 0 1), .int (b 0 2), .int (b 0 3), .int (b 0 4), .int (b 0 5), .int (b 0 6)])), ((a 1), .inr (2, [.ref (a 2), .ref (a 3), .ref (a 4), .ref (a 5), .int (d 4 0)])), ((a 2), .inl (E.2.1, 8, .inl (d 0))), ((a 3), .inl (E.2.1, 8, .inl (d 1))), ((a 4), .inl (E.2.1, 8, .inl (d 2))), ((a 5), .inl (E.2.1, 8, .inl (d 3))), ((a 6), .inr (3, [.ref (a 7), .int (h 1 0)])), ((a 7), .inl (E.2.1, 6, .inl (h 0)))]) (As := [.long (31 * (31 * (31 * (31 * (31 * (mixD d z n) + (b 0 0).toInt64) + (b 0 1).toInt64) + (b 0 2).toInt64) + (0 : Int32).toInt64) + (b 0 4).toInt64), .int (b 0 5)]) (rest := []) C (c_X5_mixed l E (31 * (31 * (31 * (31 * (31 * (mixD d z n) + (b 0 0).toInt64) + (b 0 1).toInt64) + (b 0 2).toInt64) + (0 : Int32).toInt64) + (b 0 4).toInt64) (b 0 5) ) (gWN (host := RX5) C (by unfold gNest; exact List.mem_of_getElem? (i := 8) rfl) kw_st_X5_mixed kw_ini_X5 kw_code_X5_mixed ga_X5_mixed ⟨Nat.le_of_ble_eq_true rfl, Nat.le_of_ble_eq_true rfl⟩) [] [0, 1, 2, 3, 4, 5, 6, 7] [0, 1, 2, 3, 4, 5, 6, 7] rfl rfl rfl rfl (by decide) (fun _ => [((a 0), .inr (0, [.ref (a 1), .ref (a 6), .int (b 0 0), .int (b 0 1), .int (b 0 2), .int (b 0 3), .int (b 0 4), .int (b 0 5), .int (b 0 6)])), ((a 1), .inr (2, [.ref (a 2), .ref (a 3), .ref (a 4), .ref (a 5), .int (d 4 0)])), ((a 2), .inl (E.2.1, 8, .inl (d 0))), ((a 3), .inl (E.2.1, 8, .inl (d 1))), ((a 4), .inl (E.2.1, 8, .inl (d 2))), ((a 5), .inl (E.2.1, 8, .inl (d 3))), ((a 6), .inr (3, [.ref (a 7), .int (h 1 0)])), ((a 7), .inl (E.2.1, 6, .inl (h 0)))]) rfl (fun _ => rfl) rfl (Nat.le_of_ble_eq_true rfl) ⟨Nat.le_of_ble_eq_true rfl, Nat.le_of_ble_eq_true rfl⟩ rfl dX0_mixInto_67 (fun r_13 _ e_14 => ?_)
    subst e_14
    refine x_lstore_n (lv1 := [(3, .long (31 * (31 * (31 * (31 * (31 * (31 * (mixD d z n) + (b 0 0).toInt64) + (b 0 1).toInt64) + (b 0 2).toInt64) + (0 : Int32).toInt64) + (b 0 4).toInt64) + (b 0 5).toInt64)), (0, .ref (a 0)), (1, .long z)]) C dX0_mixInto_70 (by decide) rfl ?_
    refine x_lload_n C dX0_mixInto_71 0 rfl ?_
    refine x_aload_n C dX0_mixInto_72 1 rfl ?_
    refine x_get (ref := "RomSearchBus$BusState") (v := .int (b 0 6)) C inX0 0 8 rfl rfl (by decide) kw_fl_X0_45 rfl rfl dX0_mixInto_73 ?_
    refine x_callNL (wc := []) (wr := [((a 0), .inr (0, [.ref (a 1), .ref (a 6), .int (b 0 0), .int (b 0 1), .int (b 0 2), .int (b 0 3), .int (b 0 4), .int (b 0 5), .int (b 0 6)])), ((a 1), .inr (2, [.ref (a 2), .ref (a 3), .ref (a 4), .ref (a 5), .int (d 4 0)])), ((a 2), .inl (E.2.1, 8, .inl (d 0))), ((a 3), .inl (E.2.1, 8, .inl (d 1))), ((a 4), .inl (E.2.1, 8, .inl (d 2))), ((a 5), .inl (E.2.1, 8, .inl (d 3))), ((a 6), .inr (3, [.ref (a 7), .int (h 1 0)])), ((a 7), .inl (E.2.1, 6, .inl (h 0)))]) (As := [.long (31 * (31 * (31 * (31 * (31 * (31 * (mixD d z n) + (b 0 0).toInt64) + (b 0 1).toInt64) + (b 0 2).toInt64) + (0 : Int32).toInt64) + (b 0 4).toInt64) + (b 0 5).toInt64), .int (b 0 6)]) (rest := []) C (c_X5_mixed l E (31 * (31 * (31 * (31 * (31 * (31 * (mixD d z n) + (b 0 0).toInt64) + (b 0 1).toInt64) + (b 0 2).toInt64) + (0 : Int32).toInt64) + (b 0 4).toInt64) + (b 0 5).toInt64) (b 0 6) ) (gWN (host := RX5) C (by unfold gNest; exact List.mem_of_getElem? (i := 8) rfl) kw_st_X5_mixed kw_ini_X5 kw_code_X5_mixed ga_X5_mixed ⟨Nat.le_of_ble_eq_true rfl, Nat.le_of_ble_eq_true rfl⟩) [] [0, 1, 2, 3, 4, 5, 6, 7] [0, 1, 2, 3, 4, 5, 6, 7] rfl rfl rfl rfl (by decide) (fun _ => [((a 0), .inr (0, [.ref (a 1), .ref (a 6), .int (b 0 0), .int (b 0 1), .int (b 0 2), .int (b 0 3), .int (b 0 4), .int (b 0 5), .int (b 0 6)])), ((a 1), .inr (2, [.ref (a 2), .ref (a 3), .ref (a 4), .ref (a 5), .int (d 4 0)])), ((a 2), .inl (E.2.1, 8, .inl (d 0))), ((a 3), .inl (E.2.1, 8, .inl (d 1))), ((a 4), .inl (E.2.1, 8, .inl (d 2))), ((a 5), .inl (E.2.1, 8, .inl (d 3))), ((a 6), .inr (3, [.ref (a 7), .int (h 1 0)])), ((a 7), .inl (E.2.1, 6, .inl (h 0)))]) rfl (fun _ => rfl) rfl (Nat.le_of_ble_eq_true rfl) ⟨Nat.le_of_ble_eq_true rfl, Nat.le_of_ble_eq_true rfl⟩ rfl dX0_mixInto_76 (fun r_15 _ e_16 => ?_)
    subst e_16
    refine x_lstore_n (lv1 := [(3, .long (31 * (31 * (31 * (31 * (31 * (31 * (31 * (mixD d z n) + (b 0 0).toInt64) + (b 0 1).toInt64) + (b 0 2).toInt64) + (0 : Int32).toInt64) + (b 0 4).toInt64) + (b 0 5).toInt64) + (b 0 6).toInt64)), (0, .ref (a 0)), (1, .long z)]) C dX0_mixInto_79 (by decide) rfl ?_
    refine x_aload_n C dX0_mixInto_80 1 rfl ?_
    refine x_get (ref := "RomSearchBus$BusState") (v := .ref (a 6)) C inX0 0 1 rfl rfl (by decide) kw_fl_X0_21 rfl rfl dX0_mixInto_81 ?_
    refine x_lload_n C dX0_mixInto_84 0 rfl ?_
    refine x_callVL (wc := [((a 6), .inr (3, [.ref (a 7), .int (h 1 0)])), ((a 7), .inl (E.2.1, 6, .inl (h 0)))]) (wr := [((a 0), .inr (0, [.ref (a 1), .ref (a 6), .int (b 0 0), .int (b 0 1), .int (b 0 2), .int (b 0 3), .int (b 0 4), .int (b 0 5), .int (b 0 6)])), ((a 1), .inr (2, [.ref (a 2), .ref (a 3), .ref (a 4), .ref (a 5), .int (d 4 0)])), ((a 2), .inl (E.2.1, 8, .inl (d 0))), ((a 3), .inl (E.2.1, 8, .inl (d 1))), ((a 4), .inl (E.2.1, 8, .inl (d 2))), ((a 5), .inl (E.2.1, 8, .inl (d 3)))]) (As := [.long (31 * (31 * (31 * (31 * (31 * (31 * (31 * (mixD d z n) + (b 0 0).toInt64) + (b 0 1).toInt64) + (b 0 2).toInt64) + (0 : Int32).toInt64) + (b 0 4).toInt64) + (b 0 5).toInt64) + (b 0 6).toInt64)]) (rest := []) (ci := 3) (q0 := 6) C (c_X3_mixInto l E a h (31 * (31 * (31 * (31 * (31 * (31 * (31 * (mixD d z n) + (b 0 0).toInt64) + (b 0 1).toInt64) + (b 0 2).toInt64) + (0 : Int32).toInt64) + (b 0 4).toInt64) + (b 0 5).toInt64) + (b 0 6).toInt64) nh hm h6) (gWV C kw_ml_X0_108 kw_im_X3_mixInto kw_sel_X3_mixInto kw_ini_X3 kw_code_X3_mixInto ga_X3_mixInto ⟨Nat.le_of_ble_eq_true rfl, Nat.le_of_ble_eq_true rfl⟩) rfl rfl [6, 7] [0, 1, 2, 3, 4, 5] [0, 1, 2, 3, 4, 5, 6, 7] rfl rfl rfl rfl (by decide) (fun _ => [((a 0), .inr (0, [.ref (a 1), .ref (a 6), .int (b 0 0), .int (b 0 1), .int (b 0 2), .int (b 0 3), .int (b 0 4), .int (b 0 5), .int (b 0 6)])), ((a 1), .inr (2, [.ref (a 2), .ref (a 3), .ref (a 4), .ref (a 5), .int (d 4 0)])), ((a 2), .inl (E.2.1, 8, .inl (d 0))), ((a 3), .inl (E.2.1, 8, .inl (d 1))), ((a 4), .inl (E.2.1, 8, .inl (d 2))), ((a 5), .inl (E.2.1, 8, .inl (d 3))), ((a 6), .inr (3, [.ref (a 7), .int (h 1 0)])), ((a 7), .inl (E.2.1, 6, .inl (h 0)))]) rfl (fun _ => rfl) rfl (Nat.le_of_ble_eq_true rfl) ⟨Nat.le_of_ble_eq_true rfl, Nat.le_of_ble_eq_true rfl⟩ rfl dX0_mixInto_85 (fun r_17 _ e_18 => ?_)
    subst e_18
    exact x_lret C hr hlocks () (Eq.symm (by unfold f_X0_mixInto_r; rw [if_pos c_41])) (gEq.rf _) dX0_mixInto_88
  · refine x_iconst (v := 1) C dX0_mixInto_44 (by decide) ?_
    refine x_goto (tgt := 49) C dX0_mixInto_45 (by decide) ?_
    refine x_callNL (wc := []) (wr := [((a 0), .inr (0, [.ref (a 1), .ref (a 6), .int (b 0 0), .int (b 0 1), .int (b 0 2), .int (b 0 3), .int (b 0 4), .int (b 0 5), .int (b 0 6)])), ((a 1), .inr (2, [.ref (a 2), .ref (a 3), .ref (a 4), .ref (a 5), .int (d 4 0)])), ((a 2), .inl (E.2.1, 8, .inl (d 0))), ((a 3), .inl (E.2.1, 8, .inl (d 1))), ((a 4), .inl (E.2.1, 8, .inl (d 2))), ((a 5), .inl (E.2.1, 8, .inl (d 3))), ((a 6), .inr (3, [.ref (a 7), .int (h 1 0)])), ((a 7), .inl (E.2.1, 6, .inl (h 0)))]) (As := [.long (31 * (31 * (31 * (mixD d z n) + (b 0 0).toInt64) + (b 0 1).toInt64) + (b 0 2).toInt64), .int 1]) (rest := []) C (c_X5_mixed l E (31 * (31 * (31 * (mixD d z n) + (b 0 0).toInt64) + (b 0 1).toInt64) + (b 0 2).toInt64) 1 ) (gWN (host := RX5) C (by unfold gNest; exact List.mem_of_getElem? (i := 8) rfl) kw_st_X5_mixed kw_ini_X5 kw_code_X5_mixed ga_X5_mixed ⟨Nat.le_of_ble_eq_true rfl, Nat.le_of_ble_eq_true rfl⟩) [] [0, 1, 2, 3, 4, 5, 6, 7] [0, 1, 2, 3, 4, 5, 6, 7] rfl rfl rfl rfl (by decide) (fun _ => [((a 0), .inr (0, [.ref (a 1), .ref (a 6), .int (b 0 0), .int (b 0 1), .int (b 0 2), .int (b 0 3), .int (b 0 4), .int (b 0 5), .int (b 0 6)])), ((a 1), .inr (2, [.ref (a 2), .ref (a 3), .ref (a 4), .ref (a 5), .int (d 4 0)])), ((a 2), .inl (E.2.1, 8, .inl (d 0))), ((a 3), .inl (E.2.1, 8, .inl (d 1))), ((a 4), .inl (E.2.1, 8, .inl (d 2))), ((a 5), .inl (E.2.1, 8, .inl (d 3))), ((a 6), .inr (3, [.ref (a 7), .int (h 1 0)])), ((a 7), .inl (E.2.1, 6, .inl (h 0)))]) rfl (fun _ => rfl) rfl (Nat.le_of_ble_eq_true rfl) ⟨Nat.le_of_ble_eq_true rfl, Nat.le_of_ble_eq_true rfl⟩ rfl dX0_mixInto_49 (fun r_19 _ e_20 => ?_)
    subst e_20
    refine x_lstore_n (lv1 := [(3, .long (31 * (31 * (31 * (31 * (mixD d z n) + (b 0 0).toInt64) + (b 0 1).toInt64) + (b 0 2).toInt64) + (1 : Int32).toInt64)), (0, .ref (a 0)), (1, .long z)]) C dX0_mixInto_52 (by decide) rfl ?_
    refine x_lload_n C dX0_mixInto_53 0 rfl ?_
    refine x_aload_n C dX0_mixInto_54 1 rfl ?_
    refine x_get (ref := "RomSearchBus$BusState") (v := .int (b 0 4)) C inX0 0 6 rfl rfl (by decide) kw_fl_X0_39 rfl rfl dX0_mixInto_55 ?_
    refine x_callNL (wc := []) (wr := [((a 0), .inr (0, [.ref (a 1), .ref (a 6), .int (b 0 0), .int (b 0 1), .int (b 0 2), .int (b 0 3), .int (b 0 4), .int (b 0 5), .int (b 0 6)])), ((a 1), .inr (2, [.ref (a 2), .ref (a 3), .ref (a 4), .ref (a 5), .int (d 4 0)])), ((a 2), .inl (E.2.1, 8, .inl (d 0))), ((a 3), .inl (E.2.1, 8, .inl (d 1))), ((a 4), .inl (E.2.1, 8, .inl (d 2))), ((a 5), .inl (E.2.1, 8, .inl (d 3))), ((a 6), .inr (3, [.ref (a 7), .int (h 1 0)])), ((a 7), .inl (E.2.1, 6, .inl (h 0)))]) (As := [.long (31 * (31 * (31 * (31 * (mixD d z n) + (b 0 0).toInt64) + (b 0 1).toInt64) + (b 0 2).toInt64) + (1 : Int32).toInt64), .int (b 0 4)]) (rest := []) C (c_X5_mixed l E (31 * (31 * (31 * (31 * (mixD d z n) + (b 0 0).toInt64) + (b 0 1).toInt64) + (b 0 2).toInt64) + (1 : Int32).toInt64) (b 0 4) ) (gWN (host := RX5) C (by unfold gNest; exact List.mem_of_getElem? (i := 8) rfl) kw_st_X5_mixed kw_ini_X5 kw_code_X5_mixed ga_X5_mixed ⟨Nat.le_of_ble_eq_true rfl, Nat.le_of_ble_eq_true rfl⟩) [] [0, 1, 2, 3, 4, 5, 6, 7] [0, 1, 2, 3, 4, 5, 6, 7] rfl rfl rfl rfl (by decide) (fun _ => [((a 0), .inr (0, [.ref (a 1), .ref (a 6), .int (b 0 0), .int (b 0 1), .int (b 0 2), .int (b 0 3), .int (b 0 4), .int (b 0 5), .int (b 0 6)])), ((a 1), .inr (2, [.ref (a 2), .ref (a 3), .ref (a 4), .ref (a 5), .int (d 4 0)])), ((a 2), .inl (E.2.1, 8, .inl (d 0))), ((a 3), .inl (E.2.1, 8, .inl (d 1))), ((a 4), .inl (E.2.1, 8, .inl (d 2))), ((a 5), .inl (E.2.1, 8, .inl (d 3))), ((a 6), .inr (3, [.ref (a 7), .int (h 1 0)])), ((a 7), .inl (E.2.1, 6, .inl (h 0)))]) rfl (fun _ => rfl) rfl (Nat.le_of_ble_eq_true rfl) ⟨Nat.le_of_ble_eq_true rfl, Nat.le_of_ble_eq_true rfl⟩ rfl dX0_mixInto_58 (fun r_21 _ e_22 => ?_)
    subst e_22
    refine x_lstore_n (lv1 := [(3, .long (31 * (31 * (31 * (31 * (31 * (mixD d z n) + (b 0 0).toInt64) + (b 0 1).toInt64) + (b 0 2).toInt64) + (1 : Int32).toInt64) + (b 0 4).toInt64)), (0, .ref (a 0)), (1, .long z)]) C dX0_mixInto_61 (by decide) rfl ?_
    refine x_lload_n C dX0_mixInto_62 0 rfl ?_
    refine x_aload_n C dX0_mixInto_63 1 rfl ?_
    refine x_get (ref := "RomSearchBus$BusState") (v := .int (b 0 5)) C inX0 0 7 rfl rfl (by decide) kw_fl_X0_42 rfl rfl dX0_mixInto_64 ?_
    refine x_callNL (wc := []) (wr := [((a 0), .inr (0, [.ref (a 1), .ref (a 6), .int (b 0 0), .int (b 0 1), .int (b 0 2), .int (b 0 3), .int (b 0 4), .int (b 0 5), .int (b 0 6)])), ((a 1), .inr (2, [.ref (a 2), .ref (a 3), .ref (a 4), .ref (a 5), .int (d 4 0)])), ((a 2), .inl (E.2.1, 8, .inl (d 0))), ((a 3), .inl (E.2.1, 8, .inl (d 1))), ((a 4), .inl (E.2.1, 8, .inl (d 2))), ((a 5), .inl (E.2.1, 8, .inl (d 3))), ((a 6), .inr (3, [.ref (a 7), .int (h 1 0)])), ((a 7), .inl (E.2.1, 6, .inl (h 0)))]) (As := [.long (31 * (31 * (31 * (31 * (31 * (mixD d z n) + (b 0 0).toInt64) + (b 0 1).toInt64) + (b 0 2).toInt64) + (1 : Int32).toInt64) + (b 0 4).toInt64), .int (b 0 5)]) (rest := []) C (c_X5_mixed l E (31 * (31 * (31 * (31 * (31 * (mixD d z n) + (b 0 0).toInt64) + (b 0 1).toInt64) + (b 0 2).toInt64) + (1 : Int32).toInt64) + (b 0 4).toInt64) (b 0 5) ) (gWN (host := RX5) C (by unfold gNest; exact List.mem_of_getElem? (i := 8) rfl) kw_st_X5_mixed kw_ini_X5 kw_code_X5_mixed ga_X5_mixed ⟨Nat.le_of_ble_eq_true rfl, Nat.le_of_ble_eq_true rfl⟩) [] [0, 1, 2, 3, 4, 5, 6, 7] [0, 1, 2, 3, 4, 5, 6, 7] rfl rfl rfl rfl (by decide) (fun _ => [((a 0), .inr (0, [.ref (a 1), .ref (a 6), .int (b 0 0), .int (b 0 1), .int (b 0 2), .int (b 0 3), .int (b 0 4), .int (b 0 5), .int (b 0 6)])), ((a 1), .inr (2, [.ref (a 2), .ref (a 3), .ref (a 4), .ref (a 5), .int (d 4 0)])), ((a 2), .inl (E.2.1, 8, .inl (d 0))), ((a 3), .inl (E.2.1, 8, .inl (d 1))), ((a 4), .inl (E.2.1, 8, .inl (d 2))), ((a 5), .inl (E.2.1, 8, .inl (d 3))), ((a 6), .inr (3, [.ref (a 7), .int (h 1 0)])), ((a 7), .inl (E.2.1, 6, .inl (h 0)))]) rfl (fun _ => rfl) rfl (Nat.le_of_ble_eq_true rfl) ⟨Nat.le_of_ble_eq_true rfl, Nat.le_of_ble_eq_true rfl⟩ rfl dX0_mixInto_67 (fun r_23 _ e_24 => ?_)
    subst e_24
    refine x_lstore_n (lv1 := [(3, .long (31 * (31 * (31 * (31 * (31 * (31 * (mixD d z n) + (b 0 0).toInt64) + (b 0 1).toInt64) + (b 0 2).toInt64) + (1 : Int32).toInt64) + (b 0 4).toInt64) + (b 0 5).toInt64)), (0, .ref (a 0)), (1, .long z)]) C dX0_mixInto_70 (by decide) rfl ?_
    refine x_lload_n C dX0_mixInto_71 0 rfl ?_
    refine x_aload_n C dX0_mixInto_72 1 rfl ?_
    refine x_get (ref := "RomSearchBus$BusState") (v := .int (b 0 6)) C inX0 0 8 rfl rfl (by decide) kw_fl_X0_45 rfl rfl dX0_mixInto_73 ?_
    refine x_callNL (wc := []) (wr := [((a 0), .inr (0, [.ref (a 1), .ref (a 6), .int (b 0 0), .int (b 0 1), .int (b 0 2), .int (b 0 3), .int (b 0 4), .int (b 0 5), .int (b 0 6)])), ((a 1), .inr (2, [.ref (a 2), .ref (a 3), .ref (a 4), .ref (a 5), .int (d 4 0)])), ((a 2), .inl (E.2.1, 8, .inl (d 0))), ((a 3), .inl (E.2.1, 8, .inl (d 1))), ((a 4), .inl (E.2.1, 8, .inl (d 2))), ((a 5), .inl (E.2.1, 8, .inl (d 3))), ((a 6), .inr (3, [.ref (a 7), .int (h 1 0)])), ((a 7), .inl (E.2.1, 6, .inl (h 0)))]) (As := [.long (31 * (31 * (31 * (31 * (31 * (31 * (mixD d z n) + (b 0 0).toInt64) + (b 0 1).toInt64) + (b 0 2).toInt64) + (1 : Int32).toInt64) + (b 0 4).toInt64) + (b 0 5).toInt64), .int (b 0 6)]) (rest := []) C (c_X5_mixed l E (31 * (31 * (31 * (31 * (31 * (31 * (mixD d z n) + (b 0 0).toInt64) + (b 0 1).toInt64) + (b 0 2).toInt64) + (1 : Int32).toInt64) + (b 0 4).toInt64) + (b 0 5).toInt64) (b 0 6) ) (gWN (host := RX5) C (by unfold gNest; exact List.mem_of_getElem? (i := 8) rfl) kw_st_X5_mixed kw_ini_X5 kw_code_X5_mixed ga_X5_mixed ⟨Nat.le_of_ble_eq_true rfl, Nat.le_of_ble_eq_true rfl⟩) [] [0, 1, 2, 3, 4, 5, 6, 7] [0, 1, 2, 3, 4, 5, 6, 7] rfl rfl rfl rfl (by decide) (fun _ => [((a 0), .inr (0, [.ref (a 1), .ref (a 6), .int (b 0 0), .int (b 0 1), .int (b 0 2), .int (b 0 3), .int (b 0 4), .int (b 0 5), .int (b 0 6)])), ((a 1), .inr (2, [.ref (a 2), .ref (a 3), .ref (a 4), .ref (a 5), .int (d 4 0)])), ((a 2), .inl (E.2.1, 8, .inl (d 0))), ((a 3), .inl (E.2.1, 8, .inl (d 1))), ((a 4), .inl (E.2.1, 8, .inl (d 2))), ((a 5), .inl (E.2.1, 8, .inl (d 3))), ((a 6), .inr (3, [.ref (a 7), .int (h 1 0)])), ((a 7), .inl (E.2.1, 6, .inl (h 0)))]) rfl (fun _ => rfl) rfl (Nat.le_of_ble_eq_true rfl) ⟨Nat.le_of_ble_eq_true rfl, Nat.le_of_ble_eq_true rfl⟩ rfl dX0_mixInto_76 (fun r_25 _ e_26 => ?_)
    subst e_26
    refine x_lstore_n (lv1 := [(3, .long (31 * (31 * (31 * (31 * (31 * (31 * (31 * (mixD d z n) + (b 0 0).toInt64) + (b 0 1).toInt64) + (b 0 2).toInt64) + (1 : Int32).toInt64) + (b 0 4).toInt64) + (b 0 5).toInt64) + (b 0 6).toInt64)), (0, .ref (a 0)), (1, .long z)]) C dX0_mixInto_79 (by decide) rfl ?_
    refine x_aload_n C dX0_mixInto_80 1 rfl ?_
    refine x_get (ref := "RomSearchBus$BusState") (v := .ref (a 6)) C inX0 0 1 rfl rfl (by decide) kw_fl_X0_21 rfl rfl dX0_mixInto_81 ?_
    refine x_lload_n C dX0_mixInto_84 0 rfl ?_
    refine x_callVL (wc := [((a 6), .inr (3, [.ref (a 7), .int (h 1 0)])), ((a 7), .inl (E.2.1, 6, .inl (h 0)))]) (wr := [((a 0), .inr (0, [.ref (a 1), .ref (a 6), .int (b 0 0), .int (b 0 1), .int (b 0 2), .int (b 0 3), .int (b 0 4), .int (b 0 5), .int (b 0 6)])), ((a 1), .inr (2, [.ref (a 2), .ref (a 3), .ref (a 4), .ref (a 5), .int (d 4 0)])), ((a 2), .inl (E.2.1, 8, .inl (d 0))), ((a 3), .inl (E.2.1, 8, .inl (d 1))), ((a 4), .inl (E.2.1, 8, .inl (d 2))), ((a 5), .inl (E.2.1, 8, .inl (d 3)))]) (As := [.long (31 * (31 * (31 * (31 * (31 * (31 * (31 * (mixD d z n) + (b 0 0).toInt64) + (b 0 1).toInt64) + (b 0 2).toInt64) + (1 : Int32).toInt64) + (b 0 4).toInt64) + (b 0 5).toInt64) + (b 0 6).toInt64)]) (rest := []) (ci := 3) (q0 := 6) C (c_X3_mixInto l E a h (31 * (31 * (31 * (31 * (31 * (31 * (31 * (mixD d z n) + (b 0 0).toInt64) + (b 0 1).toInt64) + (b 0 2).toInt64) + (1 : Int32).toInt64) + (b 0 4).toInt64) + (b 0 5).toInt64) + (b 0 6).toInt64) nh hm h6) (gWV C kw_ml_X0_108 kw_im_X3_mixInto kw_sel_X3_mixInto kw_ini_X3 kw_code_X3_mixInto ga_X3_mixInto ⟨Nat.le_of_ble_eq_true rfl, Nat.le_of_ble_eq_true rfl⟩) rfl rfl [6, 7] [0, 1, 2, 3, 4, 5] [0, 1, 2, 3, 4, 5, 6, 7] rfl rfl rfl rfl (by decide) (fun _ => [((a 0), .inr (0, [.ref (a 1), .ref (a 6), .int (b 0 0), .int (b 0 1), .int (b 0 2), .int (b 0 3), .int (b 0 4), .int (b 0 5), .int (b 0 6)])), ((a 1), .inr (2, [.ref (a 2), .ref (a 3), .ref (a 4), .ref (a 5), .int (d 4 0)])), ((a 2), .inl (E.2.1, 8, .inl (d 0))), ((a 3), .inl (E.2.1, 8, .inl (d 1))), ((a 4), .inl (E.2.1, 8, .inl (d 2))), ((a 5), .inl (E.2.1, 8, .inl (d 3))), ((a 6), .inr (3, [.ref (a 7), .int (h 1 0)])), ((a 7), .inl (E.2.1, 6, .inl (h 0)))]) rfl (fun _ => rfl) rfl (Nat.le_of_ble_eq_true rfl) ⟨Nat.le_of_ble_eq_true rfl, Nat.le_of_ble_eq_true rfl⟩ rfl dX0_mixInto_85 (fun r_27 _ e_28 => ?_)
    subst e_28
    exact x_lret C hr hlocks () (Eq.symm (by unfold f_X0_mixInto_r; rw [if_neg c_41])) (gEq.rf _) dX0_mixInto_88
set_option maxHeartbeats 4000000 in
set_option maxRecDepth 100000 in
theorem c_X0_copyFrom (l : Launch) (E : gE) (a : Nat → Nat) (b : Nat → Nat → Int32) (d : Nat → Nat → Int32) (h : Nat → Nat → Int32) (o : Nat → Nat) (b2 : Nat → Nat → Int32) (d2 : Nat → Nat → Int32) (h2 : Nat → Nat → Int32) (hf : b2 0 3 = 0 ∨ b2 0 3 = 1) : CtV l E yX0_copyFrom prog_2_method_2_code 2 none 2 51 0 0 [.ref (a 0), .ref (o 0)] [((a 0), .inr (0, [.ref (a 1), .ref (a 6), .int (b 0 0), .int (b 0 1), .int (b 0 2), .int (b 0 3), .int (b 0 4), .int (b 0 5), .int (b 0 6)])), ((a 1), .inr (2, [.ref (a 2), .ref (a 3), .ref (a 4), .ref (a 5), .int (d 4 0)])), ((a 2), .inl (E.2.1, 8, .inl (d 0))), ((a 3), .inl (E.2.1, 8, .inl (d 1))), ((a 4), .inl (E.2.1, 8, .inl (d 2))), ((a 5), .inl (E.2.1, 8, .inl (d 3))), ((a 6), .inr (3, [.ref (a 7), .int (h 1 0)])), ((a 7), .inl (E.2.1, 6, .inl (h 0))), ((o 0), .inr (0, [.ref (o 1), .ref (o 6), .int (b2 0 0), .int (b2 0 1), .int (b2 0 2), .int (b2 0 3), .int (b2 0 4), .int (b2 0 5), .int (b2 0 6)])), ((o 1), .inr (2, [.ref (o 2), .ref (o 3), .ref (o 4), .ref (o 5), .int (d2 4 0)])), ((o 2), .inl (E.2.1, 8, .inl (d2 0))), ((o 3), .inl (E.2.1, 8, .inl (d2 1))), ((o 4), .inl (E.2.1, 8, .inl (d2 2))), ((o 5), .inl (E.2.1, 8, .inl (d2 3))), ((o 6), .inr (3, [.ref (o 7), .int (h2 1 0)])), ((o 7), .inl (E.2.1, 6, .inl (h2 0)))] (fun _ : Unit => True) (fun _ => [((a 0), .inr (0, [.ref (a 1), .ref (a 6), .int (b2 0 0), .int (b2 0 1), .int (b2 0 2), .int (b2 0 3), .int (b2 0 4), .int (b2 0 5), .int (b2 0 6)])), ((a 1), .inr (2, [.ref (a 2), .ref (a 3), .ref (a 4), .ref (a 5), .int (d2 4 0)])), ((a 2), .inl (E.2.1, 8, .inl (d2 0))), ((a 3), .inl (E.2.1, 8, .inl (d2 1))), ((a 4), .inl (E.2.1, 8, .inl (d2 2))), ((a 5), .inl (E.2.1, 8, .inl (d2 3))), ((a 6), .inr (3, [.ref (a 7), .int (h2 1 0)])), ((a 7), .inl (E.2.1, 6, .inl (h2 0))), ((o 0), .inr (0, [.ref (o 1), .ref (o 6), .int (b2 0 0), .int (b2 0 1), .int (b2 0 2), .int (b2 0 3), .int (b2 0 4), .int (b2 0 5), .int (b2 0 6)])), ((o 1), .inr (2, [.ref (o 2), .ref (o 3), .ref (o 4), .ref (o 5), .int (d2 4 0)])), ((o 2), .inl (E.2.1, 8, .inl (d2 0))), ((o 3), .inl (E.2.1, 8, .inl (d2 1))), ((o 4), .inl (E.2.1, 8, .inl (d2 2))), ((o 5), .inl (E.2.1, 8, .inl (d2 3))), ((o 6), .inr (3, [.ref (o 7), .int (h2 1 0)])), ((o 7), .inl (E.2.1, 6, .inl (h2 0)))]) := by
  refine CtV.start (by decide) (Nat.le_of_ble_eq_true rfl) ?_
  intro p_ e_ s_ m_ below_ meth_ c_ A_ C hr hlocks hnm
  refine Wd.cast (lv1 := [(0, .ref (a 0)), (1, .ref (o 0))]) rfl rfl rfl ?_
  refine x_aload_n C dX0_copyFrom_0 0 rfl ?_
  refine x_get (ref := "RomSearchBus$BusState") (v := .ref (a 1)) C inX0 0 0 rfl rfl (by decide) kw_fl_X0_12 rfl rfl dX0_copyFrom_1 ?_
  refine x_aload_n C dX0_copyFrom_4 1 rfl ?_
  refine x_get (ref := "RomSearchBus$BusState") (v := .ref (o 1)) C inX0 8 0 rfl rfl (by decide) kw_fl_X0_12 rfl rfl dX0_copyFrom_5 ?_
  refine x_callVV (wc := [((a 1), .inr (2, [.ref (a 2), .ref (a 3), .ref (a 4), .ref (a 5), .int (d 4 0)])), ((a 2), .inl (E.2.1, 8, .inl (d 0))), ((a 3), .inl (E.2.1, 8, .inl (d 1))), ((a 4), .inl (E.2.1, 8, .inl (d 2))), ((a 5), .inl (E.2.1, 8, .inl (d 3))), ((o 1), .inr (2, [.ref (o 2), .ref (o 3), .ref (o 4), .ref (o 5), .int (d2 4 0)])), ((o 2), .inl (E.2.1, 8, .inl (d2 0))), ((o 3), .inl (E.2.1, 8, .inl (d2 1))), ((o 4), .inl (E.2.1, 8, .inl (d2 2))), ((o 5), .inl (E.2.1, 8, .inl (d2 3)))]) (wr := [((a 0), .inr (0, [.ref (a 1), .ref (a 6), .int (b 0 0), .int (b 0 1), .int (b 0 2), .int (b 0 3), .int (b 0 4), .int (b 0 5), .int (b 0 6)])), ((a 6), .inr (3, [.ref (a 7), .int (h 1 0)])), ((a 7), .inl (E.2.1, 6, .inl (h 0))), ((o 0), .inr (0, [.ref (o 1), .ref (o 6), .int (b2 0 0), .int (b2 0 1), .int (b2 0 2), .int (b2 0 3), .int (b2 0 4), .int (b2 0 5), .int (b2 0 6)])), ((o 6), .inr (3, [.ref (o 7), .int (h2 1 0)])), ((o 7), .inl (E.2.1, 6, .inl (h2 0)))]) (As := [.ref (o 1)]) (rest := []) (ci := 2) (q0 := 1) C (c_X2_copyFrom l E a d o d2 ) (gWV C kw_ml_X0_48 kw_im_X2_copyFrom kw_sel_X2_copyFrom kw_ini_X2 kw_code_X2_copyFrom ga_X2_copyFrom ⟨Nat.le_of_ble_eq_true rfl, Nat.le_of_ble_eq_true rfl⟩) rfl rfl [1, 2, 3, 4, 5, 9, 10, 11, 12, 13] [0, 6, 7, 8, 14, 15] [0, 6, 7, 8, 9, 10, 1, 2, 3, 11, 12, 13, 14, 15, 4, 5] rfl rfl rfl rfl (by decide) (fun _ => [((a 0), .inr (0, [.ref (a 1), .ref (a 6), .int (b 0 0), .int (b 0 1), .int (b 0 2), .int (b 0 3), .int (b 0 4), .int (b 0 5), .int (b 0 6)])), ((a 1), .inr (2, [.ref (a 2), .ref (a 3), .ref (a 4), .ref (a 5), .int (d2 4 0)])), ((a 2), .inl (E.2.1, 8, .inl (d2 0))), ((a 3), .inl (E.2.1, 8, .inl (d2 1))), ((a 4), .inl (E.2.1, 8, .inl (d2 2))), ((a 5), .inl (E.2.1, 8, .inl (d2 3))), ((a 6), .inr (3, [.ref (a 7), .int (h 1 0)])), ((a 7), .inl (E.2.1, 6, .inl (h 0))), ((o 0), .inr (0, [.ref (o 1), .ref (o 6), .int (b2 0 0), .int (b2 0 1), .int (b2 0 2), .int (b2 0 3), .int (b2 0 4), .int (b2 0 5), .int (b2 0 6)])), ((o 1), .inr (2, [.ref (o 2), .ref (o 3), .ref (o 4), .ref (o 5), .int (d2 4 0)])), ((o 2), .inl (E.2.1, 8, .inl (d2 0))), ((o 3), .inl (E.2.1, 8, .inl (d2 1))), ((o 4), .inl (E.2.1, 8, .inl (d2 2))), ((o 5), .inl (E.2.1, 8, .inl (d2 3))), ((o 6), .inr (3, [.ref (o 7), .int (h2 1 0)])), ((o 7), .inl (E.2.1, 6, .inl (h2 0)))]) rfl (fun _ => rfl) rfl (Nat.le_of_ble_eq_true rfl) ⟨Nat.le_of_ble_eq_true rfl, Nat.le_of_ble_eq_true rfl⟩ rfl dX0_copyFrom_8 (fun _ e_2 => ?_)
  refine x_aload_n C dX0_copyFrom_11 0 rfl ?_
  refine x_get (ref := "RomSearchBus$BusState") (v := .ref (a 6)) C inX0 0 1 rfl rfl (by decide) kw_fl_X0_21 rfl rfl dX0_copyFrom_12 ?_
  refine x_aload_n C dX0_copyFrom_15 1 rfl ?_
  refine x_get (ref := "RomSearchBus$BusState") (v := .ref (o 6)) C inX0 8 1 rfl rfl (by decide) kw_fl_X0_21 rfl rfl dX0_copyFrom_16 ?_
  refine x_callVV (wc := [((a 6), .inr (3, [.ref (a 7), .int (h 1 0)])), ((a 7), .inl (E.2.1, 6, .inl (h 0))), ((o 6), .inr (3, [.ref (o 7), .int (h2 1 0)])), ((o 7), .inl (E.2.1, 6, .inl (h2 0)))]) (wr := [((a 0), .inr (0, [.ref (a 1), .ref (a 6), .int (b 0 0), .int (b 0 1), .int (b 0 2), .int (b 0 3), .int (b 0 4), .int (b 0 5), .int (b 0 6)])), ((a 1), .inr (2, [.ref (a 2), .ref (a 3), .ref (a 4), .ref (a 5), .int (d2 4 0)])), ((a 2), .inl (E.2.1, 8, .inl (d2 0))), ((a 3), .inl (E.2.1, 8, .inl (d2 1))), ((a 4), .inl (E.2.1, 8, .inl (d2 2))), ((a 5), .inl (E.2.1, 8, .inl (d2 3))), ((o 0), .inr (0, [.ref (o 1), .ref (o 6), .int (b2 0 0), .int (b2 0 1), .int (b2 0 2), .int (b2 0 3), .int (b2 0 4), .int (b2 0 5), .int (b2 0 6)])), ((o 1), .inr (2, [.ref (o 2), .ref (o 3), .ref (o 4), .ref (o 5), .int (d2 4 0)])), ((o 2), .inl (E.2.1, 8, .inl (d2 0))), ((o 3), .inl (E.2.1, 8, .inl (d2 1))), ((o 4), .inl (E.2.1, 8, .inl (d2 2))), ((o 5), .inl (E.2.1, 8, .inl (d2 3)))]) (As := [.ref (o 6)]) (rest := []) (ci := 3) (q0 := 6) C (c_X3_copyFrom l E a h o h2 ) (gWV C kw_ml_X0_52 kw_im_X3_copyFrom kw_sel_X3_copyFrom kw_ini_X3 kw_code_X3_copyFrom ga_X3_copyFrom ⟨Nat.le_of_ble_eq_true rfl, Nat.le_of_ble_eq_true rfl⟩) rfl rfl [6, 7, 14, 15] [0, 1, 2, 3, 4, 5, 8, 9, 10, 11, 12, 13] [0, 1, 2, 3, 4, 5, 12, 13, 6, 7, 8, 9, 10, 11, 14, 15] rfl rfl rfl rfl (by decide) (fun _ => [((a 0), .inr (0, [.ref (a 1), .ref (a 6), .int (b 0 0), .int (b 0 1), .int (b 0 2), .int (b 0 3), .int (b 0 4), .int (b 0 5), .int (b 0 6)])), ((a 1), .inr (2, [.ref (a 2), .ref (a 3), .ref (a 4), .ref (a 5), .int (d2 4 0)])), ((a 2), .inl (E.2.1, 8, .inl (d2 0))), ((a 3), .inl (E.2.1, 8, .inl (d2 1))), ((a 4), .inl (E.2.1, 8, .inl (d2 2))), ((a 5), .inl (E.2.1, 8, .inl (d2 3))), ((a 6), .inr (3, [.ref (a 7), .int (h2 1 0)])), ((a 7), .inl (E.2.1, 6, .inl (h2 0))), ((o 0), .inr (0, [.ref (o 1), .ref (o 6), .int (b2 0 0), .int (b2 0 1), .int (b2 0 2), .int (b2 0 3), .int (b2 0 4), .int (b2 0 5), .int (b2 0 6)])), ((o 1), .inr (2, [.ref (o 2), .ref (o 3), .ref (o 4), .ref (o 5), .int (d2 4 0)])), ((o 2), .inl (E.2.1, 8, .inl (d2 0))), ((o 3), .inl (E.2.1, 8, .inl (d2 1))), ((o 4), .inl (E.2.1, 8, .inl (d2 2))), ((o 5), .inl (E.2.1, 8, .inl (d2 3))), ((o 6), .inr (3, [.ref (o 7), .int (h2 1 0)])), ((o 7), .inl (E.2.1, 6, .inl (h2 0)))]) rfl (fun _ => rfl) rfl (Nat.le_of_ble_eq_true rfl) ⟨Nat.le_of_ble_eq_true rfl, Nat.le_of_ble_eq_true rfl⟩ rfl dX0_copyFrom_19 (fun _ e_4 => ?_)
  refine x_aload_n C dX0_copyFrom_22 0 rfl ?_
  refine x_aload_n C dX0_copyFrom_23 1 rfl ?_
  refine x_get (ref := "RomSearchBus$BusState") (v := .int (b2 0 0)) C inX0 8 2 rfl rfl (by decide) kw_fl_X0_25 rfl rfl dX0_copyFrom_24 ?_
  refine x_put (ref := "RomSearchBus$BusState") C inX0 tyX0 tyX0_ok nmX0 0 2 rfl rfl (by decide) kw_fl_X0_25 rfl rfl rfl rfl (Nat.le_of_ble_eq_true rfl) [((a 0), .inr (0, [.ref (a 1), .ref (a 6), .int (b2 0 0), .int (b 0 1), .int (b 0 2), .int (b 0 3), .int (b 0 4), .int (b 0 5), .int (b 0 6)])), ((a 1), .inr (2, [.ref (a 2), .ref (a 3), .ref (a 4), .ref (a 5), .int (d2 4 0)])), ((a 2), .inl (E.2.1, 8, .inl (d2 0))), ((a 3), .inl (E.2.1, 8, .inl (d2 1))), ((a 4), .inl (E.2.1, 8, .inl (d2 2))), ((a 5), .inl (E.2.1, 8, .inl (d2 3))), ((a 6), .inr (3, [.ref (a 7), .int (h2 1 0)])), ((a 7), .inl (E.2.1, 6, .inl (h2 0))), ((o 0), .inr (0, [.ref (o 1), .ref (o 6), .int (b2 0 0), .int (b2 0 1), .int (b2 0 2), .int (b2 0 3), .int (b2 0 4), .int (b2 0 5), .int (b2 0 6)])), ((o 1), .inr (2, [.ref (o 2), .ref (o 3), .ref (o 4), .ref (o 5), .int (d2 4 0)])), ((o 2), .inl (E.2.1, 8, .inl (d2 0))), ((o 3), .inl (E.2.1, 8, .inl (d2 1))), ((o 4), .inl (E.2.1, 8, .inl (d2 2))), ((o 5), .inl (E.2.1, 8, .inl (d2 3))), ((o 6), .inr (3, [.ref (o 7), .int (h2 1 0)])), ((o 7), .inl (E.2.1, 6, .inl (h2 0)))] rfl dX0_copyFrom_27 ?_
  refine x_aload_n C dX0_copyFrom_30 0 rfl ?_
  refine x_aload_n C dX0_copyFrom_31 1 rfl ?_
  refine x_get (ref := "RomSearchBus$BusState") (v := .int (b2 0 1)) C inX0 8 3 rfl rfl (by decide) kw_fl_X0_29 rfl rfl dX0_copyFrom_32 ?_
  refine x_put (ref := "RomSearchBus$BusState") C inX0 tyX0 tyX0_ok nmX0 0 3 rfl rfl (by decide) kw_fl_X0_29 rfl rfl rfl rfl (Nat.le_of_ble_eq_true rfl) [((a 0), .inr (0, [.ref (a 1), .ref (a 6), .int (b2 0 0), .int (b2 0 1), .int (b 0 2), .int (b 0 3), .int (b 0 4), .int (b 0 5), .int (b 0 6)])), ((a 1), .inr (2, [.ref (a 2), .ref (a 3), .ref (a 4), .ref (a 5), .int (d2 4 0)])), ((a 2), .inl (E.2.1, 8, .inl (d2 0))), ((a 3), .inl (E.2.1, 8, .inl (d2 1))), ((a 4), .inl (E.2.1, 8, .inl (d2 2))), ((a 5), .inl (E.2.1, 8, .inl (d2 3))), ((a 6), .inr (3, [.ref (a 7), .int (h2 1 0)])), ((a 7), .inl (E.2.1, 6, .inl (h2 0))), ((o 0), .inr (0, [.ref (o 1), .ref (o 6), .int (b2 0 0), .int (b2 0 1), .int (b2 0 2), .int (b2 0 3), .int (b2 0 4), .int (b2 0 5), .int (b2 0 6)])), ((o 1), .inr (2, [.ref (o 2), .ref (o 3), .ref (o 4), .ref (o 5), .int (d2 4 0)])), ((o 2), .inl (E.2.1, 8, .inl (d2 0))), ((o 3), .inl (E.2.1, 8, .inl (d2 1))), ((o 4), .inl (E.2.1, 8, .inl (d2 2))), ((o 5), .inl (E.2.1, 8, .inl (d2 3))), ((o 6), .inr (3, [.ref (o 7), .int (h2 1 0)])), ((o 7), .inl (E.2.1, 6, .inl (h2 0)))] rfl dX0_copyFrom_35 ?_
  refine x_aload_n C dX0_copyFrom_38 0 rfl ?_
  refine x_aload_n C dX0_copyFrom_39 1 rfl ?_
  refine x_get (ref := "RomSearchBus$BusState") (v := .int (b2 0 2)) C inX0 8 4 rfl rfl (by decide) kw_fl_X0_32 rfl rfl dX0_copyFrom_40 ?_
  refine x_put (ref := "RomSearchBus$BusState") C inX0 tyX0 tyX0_ok nmX0 0 4 rfl rfl (by decide) kw_fl_X0_32 rfl rfl rfl rfl (Nat.le_of_ble_eq_true rfl) [((a 0), .inr (0, [.ref (a 1), .ref (a 6), .int (b2 0 0), .int (b2 0 1), .int (b2 0 2), .int (b 0 3), .int (b 0 4), .int (b 0 5), .int (b 0 6)])), ((a 1), .inr (2, [.ref (a 2), .ref (a 3), .ref (a 4), .ref (a 5), .int (d2 4 0)])), ((a 2), .inl (E.2.1, 8, .inl (d2 0))), ((a 3), .inl (E.2.1, 8, .inl (d2 1))), ((a 4), .inl (E.2.1, 8, .inl (d2 2))), ((a 5), .inl (E.2.1, 8, .inl (d2 3))), ((a 6), .inr (3, [.ref (a 7), .int (h2 1 0)])), ((a 7), .inl (E.2.1, 6, .inl (h2 0))), ((o 0), .inr (0, [.ref (o 1), .ref (o 6), .int (b2 0 0), .int (b2 0 1), .int (b2 0 2), .int (b2 0 3), .int (b2 0 4), .int (b2 0 5), .int (b2 0 6)])), ((o 1), .inr (2, [.ref (o 2), .ref (o 3), .ref (o 4), .ref (o 5), .int (d2 4 0)])), ((o 2), .inl (E.2.1, 8, .inl (d2 0))), ((o 3), .inl (E.2.1, 8, .inl (d2 1))), ((o 4), .inl (E.2.1, 8, .inl (d2 2))), ((o 5), .inl (E.2.1, 8, .inl (d2 3))), ((o 6), .inr (3, [.ref (o 7), .int (h2 1 0)])), ((o 7), .inl (E.2.1, 6, .inl (h2 0)))] rfl dX0_copyFrom_43 ?_
  refine x_aload_n C dX0_copyFrom_46 0 rfl ?_
  refine x_aload_n C dX0_copyFrom_47 1 rfl ?_
  refine x_get (ref := "RomSearchBus$BusState") (v := .int (b2 0 3)) C inX0 8 5 rfl rfl (by decide) kw_fl_X0_35 rfl rfl dX0_copyFrom_48 ?_
  refine x_put (ref := "RomSearchBus$BusState") C inX0 tyX0 tyX0_ok nmX0 0 5 rfl rfl (by decide) kw_fl_X0_35 rfl rfl (nar01 hf) (fit01 hf) (Nat.le_of_ble_eq_true rfl) [((a 0), .inr (0, [.ref (a 1), .ref (a 6), .int (b2 0 0), .int (b2 0 1), .int (b2 0 2), .int (b2 0 3), .int (b 0 4), .int (b 0 5), .int (b 0 6)])), ((a 1), .inr (2, [.ref (a 2), .ref (a 3), .ref (a 4), .ref (a 5), .int (d2 4 0)])), ((a 2), .inl (E.2.1, 8, .inl (d2 0))), ((a 3), .inl (E.2.1, 8, .inl (d2 1))), ((a 4), .inl (E.2.1, 8, .inl (d2 2))), ((a 5), .inl (E.2.1, 8, .inl (d2 3))), ((a 6), .inr (3, [.ref (a 7), .int (h2 1 0)])), ((a 7), .inl (E.2.1, 6, .inl (h2 0))), ((o 0), .inr (0, [.ref (o 1), .ref (o 6), .int (b2 0 0), .int (b2 0 1), .int (b2 0 2), .int (b2 0 3), .int (b2 0 4), .int (b2 0 5), .int (b2 0 6)])), ((o 1), .inr (2, [.ref (o 2), .ref (o 3), .ref (o 4), .ref (o 5), .int (d2 4 0)])), ((o 2), .inl (E.2.1, 8, .inl (d2 0))), ((o 3), .inl (E.2.1, 8, .inl (d2 1))), ((o 4), .inl (E.2.1, 8, .inl (d2 2))), ((o 5), .inl (E.2.1, 8, .inl (d2 3))), ((o 6), .inr (3, [.ref (o 7), .int (h2 1 0)])), ((o 7), .inl (E.2.1, 6, .inl (h2 0)))] rfl dX0_copyFrom_51 ?_
  refine x_aload_n C dX0_copyFrom_54 0 rfl ?_
  refine x_aload_n C dX0_copyFrom_55 1 rfl ?_
  refine x_get (ref := "RomSearchBus$BusState") (v := .int (b2 0 4)) C inX0 8 6 rfl rfl (by decide) kw_fl_X0_39 rfl rfl dX0_copyFrom_56 ?_
  refine x_put (ref := "RomSearchBus$BusState") C inX0 tyX0 tyX0_ok nmX0 0 6 rfl rfl (by decide) kw_fl_X0_39 rfl rfl rfl rfl (Nat.le_of_ble_eq_true rfl) [((a 0), .inr (0, [.ref (a 1), .ref (a 6), .int (b2 0 0), .int (b2 0 1), .int (b2 0 2), .int (b2 0 3), .int (b2 0 4), .int (b 0 5), .int (b 0 6)])), ((a 1), .inr (2, [.ref (a 2), .ref (a 3), .ref (a 4), .ref (a 5), .int (d2 4 0)])), ((a 2), .inl (E.2.1, 8, .inl (d2 0))), ((a 3), .inl (E.2.1, 8, .inl (d2 1))), ((a 4), .inl (E.2.1, 8, .inl (d2 2))), ((a 5), .inl (E.2.1, 8, .inl (d2 3))), ((a 6), .inr (3, [.ref (a 7), .int (h2 1 0)])), ((a 7), .inl (E.2.1, 6, .inl (h2 0))), ((o 0), .inr (0, [.ref (o 1), .ref (o 6), .int (b2 0 0), .int (b2 0 1), .int (b2 0 2), .int (b2 0 3), .int (b2 0 4), .int (b2 0 5), .int (b2 0 6)])), ((o 1), .inr (2, [.ref (o 2), .ref (o 3), .ref (o 4), .ref (o 5), .int (d2 4 0)])), ((o 2), .inl (E.2.1, 8, .inl (d2 0))), ((o 3), .inl (E.2.1, 8, .inl (d2 1))), ((o 4), .inl (E.2.1, 8, .inl (d2 2))), ((o 5), .inl (E.2.1, 8, .inl (d2 3))), ((o 6), .inr (3, [.ref (o 7), .int (h2 1 0)])), ((o 7), .inl (E.2.1, 6, .inl (h2 0)))] rfl dX0_copyFrom_59 ?_
  refine x_aload_n C dX0_copyFrom_62 0 rfl ?_
  refine x_aload_n C dX0_copyFrom_63 1 rfl ?_
  refine x_get (ref := "RomSearchBus$BusState") (v := .int (b2 0 5)) C inX0 8 7 rfl rfl (by decide) kw_fl_X0_42 rfl rfl dX0_copyFrom_64 ?_
  refine x_put (ref := "RomSearchBus$BusState") C inX0 tyX0 tyX0_ok nmX0 0 7 rfl rfl (by decide) kw_fl_X0_42 rfl rfl rfl rfl (Nat.le_of_ble_eq_true rfl) [((a 0), .inr (0, [.ref (a 1), .ref (a 6), .int (b2 0 0), .int (b2 0 1), .int (b2 0 2), .int (b2 0 3), .int (b2 0 4), .int (b2 0 5), .int (b 0 6)])), ((a 1), .inr (2, [.ref (a 2), .ref (a 3), .ref (a 4), .ref (a 5), .int (d2 4 0)])), ((a 2), .inl (E.2.1, 8, .inl (d2 0))), ((a 3), .inl (E.2.1, 8, .inl (d2 1))), ((a 4), .inl (E.2.1, 8, .inl (d2 2))), ((a 5), .inl (E.2.1, 8, .inl (d2 3))), ((a 6), .inr (3, [.ref (a 7), .int (h2 1 0)])), ((a 7), .inl (E.2.1, 6, .inl (h2 0))), ((o 0), .inr (0, [.ref (o 1), .ref (o 6), .int (b2 0 0), .int (b2 0 1), .int (b2 0 2), .int (b2 0 3), .int (b2 0 4), .int (b2 0 5), .int (b2 0 6)])), ((o 1), .inr (2, [.ref (o 2), .ref (o 3), .ref (o 4), .ref (o 5), .int (d2 4 0)])), ((o 2), .inl (E.2.1, 8, .inl (d2 0))), ((o 3), .inl (E.2.1, 8, .inl (d2 1))), ((o 4), .inl (E.2.1, 8, .inl (d2 2))), ((o 5), .inl (E.2.1, 8, .inl (d2 3))), ((o 6), .inr (3, [.ref (o 7), .int (h2 1 0)])), ((o 7), .inl (E.2.1, 6, .inl (h2 0)))] rfl dX0_copyFrom_67 ?_
  refine x_aload_n C dX0_copyFrom_70 0 rfl ?_
  refine x_aload_n C dX0_copyFrom_71 1 rfl ?_
  refine x_get (ref := "RomSearchBus$BusState") (v := .int (b2 0 6)) C inX0 8 8 rfl rfl (by decide) kw_fl_X0_45 rfl rfl dX0_copyFrom_72 ?_
  refine x_put (ref := "RomSearchBus$BusState") C inX0 tyX0 tyX0_ok nmX0 0 8 rfl rfl (by decide) kw_fl_X0_45 rfl rfl rfl rfl (Nat.le_of_ble_eq_true rfl) [((a 0), .inr (0, [.ref (a 1), .ref (a 6), .int (b2 0 0), .int (b2 0 1), .int (b2 0 2), .int (b2 0 3), .int (b2 0 4), .int (b2 0 5), .int (b2 0 6)])), ((a 1), .inr (2, [.ref (a 2), .ref (a 3), .ref (a 4), .ref (a 5), .int (d2 4 0)])), ((a 2), .inl (E.2.1, 8, .inl (d2 0))), ((a 3), .inl (E.2.1, 8, .inl (d2 1))), ((a 4), .inl (E.2.1, 8, .inl (d2 2))), ((a 5), .inl (E.2.1, 8, .inl (d2 3))), ((a 6), .inr (3, [.ref (a 7), .int (h2 1 0)])), ((a 7), .inl (E.2.1, 6, .inl (h2 0))), ((o 0), .inr (0, [.ref (o 1), .ref (o 6), .int (b2 0 0), .int (b2 0 1), .int (b2 0 2), .int (b2 0 3), .int (b2 0 4), .int (b2 0 5), .int (b2 0 6)])), ((o 1), .inr (2, [.ref (o 2), .ref (o 3), .ref (o 4), .ref (o 5), .int (d2 4 0)])), ((o 2), .inl (E.2.1, 8, .inl (d2 0))), ((o 3), .inl (E.2.1, 8, .inl (d2 1))), ((o 4), .inl (E.2.1, 8, .inl (d2 2))), ((o 5), .inl (E.2.1, 8, .inl (d2 3))), ((o 6), .inr (3, [.ref (o 7), .int (h2 1 0)])), ((o 7), .inl (E.2.1, 6, .inl (h2 0)))] rfl dX0_copyFrom_75 ?_
  exact x_vret C hr hlocks () trivial (gEq.rf _) dX0_copyFrom_78
